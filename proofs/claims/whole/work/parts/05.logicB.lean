/-- a field's link, its type, whether it is final -/
def XF (own : String) (idx ci k : Nat) (ty : FieldType) (fin : Bool) : Prop := ∃ (C : String) (T : u_T), vwCl[ci]? = some (C, T, xnf ci) ∧ k < xnf ci ∧ Cond.fieldLink own idx (T k).1 (T k).2.1 (T k).2.2.1 ∈ xtbl ∧ (T k).2.2.2 = fin ∧ parseFieldDescriptor (T k).2.2.1 = some ty ∧ (T k).1 = C
theorem xin_0 : ∀ w ∈ u_ws RX0 TX0 10, w ∈ xtbl := xt_list [155, 157, 159, 161, 163, 165, 167, 169, 171, 173] (by decide +kernel) (by decide +kernel)
theorem xin_1 : ∀ w ∈ u_ws RX3 TX3 6, w ∈ xtbl := xt_list [203, 205, 207, 209, 211, 213] (by decide +kernel) (by decide +kernel)
theorem xin_2 : ∀ w ∈ u_ws RX4 TX4 2, w ∈ xtbl := xt_list [33, 35] (by decide +kernel) (by decide +kernel)
theorem xin_3 : ∀ w ∈ u_ws RX5 TX5 12, w ∈ xtbl := xt_list [106, 108, 110, 112, 114, 116, 118, 120, 122, 124, 126, 128] (by decide +kernel) (by decide +kernel)
theorem xin_4 : ∀ w ∈ u_ws RX6 TX6 4, w ∈ xtbl := xt_list [59, 61, 63, 65] (by decide +kernel) (by decide +kernel)
theorem xin_5 : ∀ w ∈ u_ws RX7 TX7 2, w ∈ xtbl := xt_list [186, 188] (by decide +kernel) (by decide +kernel)
theorem xin_6 : ∀ w ∈ u_ws RX9 TX9 7, w ∈ xtbl := xt_list [223, 225, 227, 229, 231, 233, 235] (by decide +kernel) (by decide +kernel)
theorem xin_7 : ∀ w ∈ u_ws RX10 TX10 58, w ∈ xtbl := xt_list [790, 792, 794, 796, 798, 800, 802, 804, 806, 808, 810, 812, 814, 816, 818, 820, 822, 824, 826, 828, 830, 832, 834, 836, 838, 840, 842, 844, 846, 848, 850, 852, 854, 856, 858, 860, 862, 864, 866, 868, 870, 872, 874, 876, 878, 880, 882, 884, 886, 888, 890, 892, 894, 896, 898, 900, 902, 904] (by decide +kernel) (by decide +kernel)
theorem xcls {ci : Nat} {C : String} {T : u_T} (h : vwCl[ci]? = some (C, T, xnf ci)) : (∀ w ∈ u_ws C T (xnf ci), w ∈ xtbl) ∧ ∃ ty0 : Nat → FieldType, (∀ k, k < xnf ci → parseFieldDescriptor (T k).2.2.1 = some (ty0 k)) ∧ ∀ a, a < xnf ci → ∀ b, b < xnf ci → a ≠ b → (T a).2.1 ≠ (T b).2.1 := by
  match ci, h with
  | 0, h => cases h; exact ⟨xin_0, tyX0, tyX0_ok, nmX0⟩
  | 1, h => cases h; exact ⟨xin_1, tyX3, tyX3_ok, nmX3⟩
  | 2, h => cases h; exact ⟨xin_2, tyX4, tyX4_ok, nmX4⟩
  | 3, h => cases h; exact ⟨xin_3, tyX5, tyX5_ok, nmX5⟩
  | 4, h => cases h; exact ⟨xin_4, tyX6, tyX6_ok, nmX6⟩
  | 5, h => cases h; exact ⟨xin_5, tyX7, tyX7_ok, nmX7⟩
  | 6, h => cases h; exact ⟨xin_6, tyX9, tyX9_ok, nmX9⟩
  | 7, h => cases h; exact ⟨xin_7, tyX10, tyX10_ok, nmX10⟩
  | n + 8, h => simp [vwCl] at h
theorem x_recv {E : XE} {s : State} {H : Heap} {cnt : Nat} {h : XH} {a ci : Nat} {C : String} (hK : XK E s s.heap) (hP : va_P E.2.2.2.1 vwCl (xw E cnt h) H) (ha : a < cnt) (hs : xsh.getD a (9, 0) = (0, ci)) (hc : (vwCl[ci]?).map (fun q => q.1) = some C) : ∃ cell : Cell, H[E.1 + a]? = some cell ∧ cell.vm.isStatics = false ∧ s.vm.findClass C = some cell.cls := by
  cases hq : vwCl[ci]? with
  | none => rw [hq] at hc; cases hc
  | some q =>
    rw [hq] at hc
    cases hc
    exact va_recv hK.1 hP hq ((xw_at E h ha).trans (by rw [xc_obj hs]))
section XHeap
variable {E : XE} {l : Launch} {d : Nat} {M : XM} {pc : Nat} {ls : XL} {st : List Value} {cnt : Nat} {h : XH} {mr sr : Nat} {Q : Option Value → XH → Prop}

theorem g_geti {idx ci k a : Nat} {ty : FieldType} {fin : Bool} (hd : decode M.2.1 pc = .ok (.getfield idx, 3)) (hf : XF M.1.cls idx ci k ty fin) (ht : xft ci k = 0) (ha : a < cnt) (hs : xsh.getD a (9, 0) = (0, ci)) (kk : G E l d M (pc + 3) ls (.int (h.1 a k) :: st) cnt h mr sr Q) : G E l d M pc ls (.ref a :: st) cnt h mr sr Q := by
  intro p e s m args below meth c R Fin cF ms X H locs cells slots lsA r
  obtain ⟨C, T, hc, hk, hw, -, -, -⟩ := hf
  have e1 : xa E a = E.1 + a := xa_lt (by have := r.2.1; omega)
  show W p l e R s m args below meth c H locs cells slots Fin (F0 m pc lsA (.ref (xa E a) :: st.map (xv E)))
  rw [e1]
  exact va_get (v := .int (h.1 a k)) X.1 X.2.1 X.2.2.2.2.2.1 (xcls hc).1 X.2.2.2.1 X.2.2.2.2.2.2.2.2.1.1 r.2.2.1 a ((xw_at E h ha).trans (by rw [xc_obj hs])) hc k hk (X.2.2.2.2.2.1 _ hw) (fun _ q => q) ((xfs_get hk).trans (by rw [ht]; rfl)) hd (kk p e s m args below meth c R Fin cF ms X H locs cells slots lsA r)
theorem g_getl {idx ci k a : Nat} {ty : FieldType} {fin : Bool} (hd : decode M.2.1 pc = .ok (.getfield idx, 3)) (hf : XF M.1.cls idx ci k ty fin) (ht : xft ci k = 1) (ha : a < cnt) (hs : xsh.getD a (9, 0) = (0, ci)) (kk : G E l d M (pc + 3) ls (.long (h.2.1 a k) :: st) cnt h mr sr Q) : G E l d M pc ls (.ref a :: st) cnt h mr sr Q := by
  intro p e s m args below meth c R Fin cF ms X H locs cells slots lsA r
  obtain ⟨C, T, hc, hk, hw, -, -, -⟩ := hf
  have e1 : xa E a = E.1 + a := xa_lt (by have := r.2.1; omega)
  show W p l e R s m args below meth c H locs cells slots Fin (F0 m pc lsA (.ref (xa E a) :: st.map (xv E)))
  rw [e1]
  exact va_get (v := .long (h.2.1 a k)) X.1 X.2.1 X.2.2.2.2.2.1 (xcls hc).1 X.2.2.2.1 X.2.2.2.2.2.2.2.2.1.1 r.2.2.1 a ((xw_at E h ha).trans (by rw [xc_obj hs])) hc k hk (X.2.2.2.2.2.1 _ hw) (fun _ q => q) ((xfs_get hk).trans (by rw [ht]; rfl)) hd (kk p e s m args below meth c R Fin cF ms X H locs cells slots lsA r)
theorem g_getr {idx ci k a : Nat} {ty : FieldType} {fin : Bool} {b : Nat} (hd : decode M.2.1 pc = .ok (.getfield idx, 3)) (hf : XF M.1.cls idx ci k ty fin) (ht : xft ci k = 2) (ha : a < cnt) (hs : xsh.getD a (9, 0) = (0, ci)) (hb : h.2.2 a k = some b) (kk : G E l d M (pc + 3) ls (.ref b :: st) cnt h mr sr Q) : G E l d M pc ls (.ref a :: st) cnt h mr sr Q := by
  intro p e s m args below meth c R Fin cF ms X H locs cells slots lsA r
  obtain ⟨C, T, hc, hk, hw, -, -, -⟩ := hf
  have e1 : xa E a = E.1 + a := xa_lt (by have := r.2.1; omega)
  show W p l e R s m args below meth c H locs cells slots Fin (F0 m pc lsA (.ref (xa E a) :: st.map (xv E)))
  rw [e1]
  exact va_get (v := xv E (.ref b)) X.1 X.2.1 X.2.2.2.2.2.1 (xcls hc).1 X.2.2.2.1 X.2.2.2.2.2.2.2.2.1.1 r.2.2.1 a ((xw_at E h ha).trans (by rw [xc_obj hs])) hc k hk (X.2.2.2.2.2.1 _ hw) (fun _ q => q) ((xfs_get hk).trans (by rw [ht]; show some (va_rf ((h.2.2 a k).map (xa E))) = _; rw [hb]; rfl)) hd (kk p e s m args below meth c R Fin cF ms X H locs cells slots lsA r)
theorem g_getk {idx ci k a : Nat} {ty : FieldType} {fin : Bool} {j : Nat} (hd : decode M.2.1 pc = .ok (.getfield idx, 3)) (hf : XF M.1.cls idx ci k ty fin) (ht : xft ci k = 3) (ha : a < cnt) (hs : xsh.getD a (9, 0) = (0, ci)) (hj : h.1 a k = nI j) (hj5 : j < 5) (kk : G E l d M (pc + 3) ls (.ref (1000 + j) :: st) cnt h mr sr Q) : G E l d M pc ls (.ref a :: st) cnt h mr sr Q := by
  intro p e s m args below meth c R Fin cF ms X H locs cells slots lsA r
  obtain ⟨C, T, hc, hk, hw, -, -, -⟩ := hf
  have e1 : xa E a = E.1 + a := xa_lt (by have := r.2.1; omega)
  show W p l e R s m args below meth c H locs cells slots Fin (F0 m pc lsA (.ref (xa E a) :: st.map (xv E)))
  rw [e1]
  exact va_get (v := xv E (.ref (1000 + j))) X.1 X.2.1 X.2.2.2.2.2.1 (xcls hc).1 X.2.2.2.1 X.2.2.2.2.2.2.2.2.1.1 r.2.2.1 a ((xw_at E h ha).trans (by rw [xc_obj hs])) hc k hk (X.2.2.2.2.2.1 _ hw) (fun _ q => q) ((xfs_get hk).trans (by rw [ht]; show some (va_re E.2.1 (xk (h.1 a k))) = _; rw [hj, xk_of hj5]; show some (Value.ref (E.2.1 j)) = some (Value.ref (xa E (1000 + j))); rw [xa_k hj5])) hd (kk p e s m args below meth c R Fin cF ms X H locs cells slots lsA r)
theorem g_getn {idx i : Nat} {f : Nat} (hd : decode M.2.1 pc = .ok (.getfield idx, 3)) (hi : i < 5) {q : String × String × String × List Int32} (hq : xF[f]? = some q) (hl : Cond.fieldLink M.1.cls idx q.1 q.2.1 q.2.2.1 ∈ xtbl) (kk : G E l d M (pc + 3) ls (.int (q.2.2.2.getD i 0) :: st) cnt h mr sr Q) : G E l d M pc ls (.ref (1000 + i) :: st) cnt h mr sr Q := by
  intro p e s m args below meth c R Fin cF ms X H locs cells slots lsA r
  show W p l e R s m args below meth c H locs cells slots Fin (F0 m pc lsA (.ref (xa E (1000 + i)) :: st.map (xv E)))
  rw [xa_k hi]
  exact va_getE X.1 X.2.1 X.2.2.2.2.2.2.2.2.1.2.2.2.1 hi r.2.2.2.1 X.2.2.2.1 (List.mem_of_getElem? hq) (X.2.2.2.2.2.1 _ hl) (fun _ z => z) hd (kk p e s m args below meth c R Fin cF ms X H locs cells slots lsA r)
theorem g_getsK {idx i : Nat} {n : String} (hd : decode M.2.1 pc = .ok (.getstatic idx, 3)) (hi : i < 5) (hn : xnm.getD i "" = n) (hl : Cond.fieldLink M.1.cls idx "ThumbSea$Kind" n "LThumbSea$Kind;" ∈ xtbl) (kk : G E l d M (pc + 3) ls (.ref (1000 + i) :: st) cnt h mr sr Q) : G E l d M pc ls st cnt h mr sr Q := by
  intro p e s m args below meth c R Fin cF ms X H locs cells slots lsA r
  have hz := (X.2.2.2.2.2.2.2.2.1.2.2.2.1.1 i hi).1
  rw [hn] at hz
  have k2 := kk p e s m args below meth c R Fin cF ms X H locs cells slots lsA r
  have k3 : W p l e R s m args below meth c H locs cells slots Fin (F0 m (pc + 3) lsA (.ref (E.2.1 i) :: st.map (xv E))) := by
    rw [← xa_k hi]
    exact k2
  exact va_gets X.1 X.2.1 hz r.2.2.2.1 X.2.2.2.1 (X.2.2.2.2.2.1 _ hl) (fun _ z => z) hd k3
theorem g_getsA {idx : Nat} (hd : decode M.2.1 pc = .ok (.getstatic idx, 3)) (hl : Cond.fieldLink M.1.cls idx "ThumbSea$Kind" "ALL" "[LThumbSea$Kind;" ∈ xtbl) (kk : G E l d M (pc + 3) ls (.ref 2000 :: st) cnt h mr sr Q) : G E l d M pc ls st cnt h mr sr Q := by
  intro p e s m args below meth c R Fin cF ms X H locs cells slots lsA r
  exact va_gets X.1 X.2.1 X.2.2.2.2.2.2.2.2.1.2.2.2.2.1 r.2.2.2.1 X.2.2.2.1 (X.2.2.2.2.2.1 _ hl) (fun _ z => z) hd (kk p e s m args below meth c R Fin cF ms X H locs cells slots lsA r)
theorem g_aldA {i : Nat} {x : Int32} (hd : decode M.2.1 pc = .ok (.aaload, 1)) (hi : i < 5) (hx : x = nI i) (kk : G E l d M (pc + 1) ls (.ref (1000 + i) :: st) cnt h mr sr Q) : G E l d M pc ls (.int x :: .ref 2000 :: st) cnt h mr sr Q := by
  intro p e s m args below meth c R Fin cF ms X H locs cells slots lsA r
  subst hx
  refine vb_tq (v := .ref (E.2.1 i)) X.1 X.2.1 X.2.2.2.2.2.2.2.2.1.2.2.2.2.2.1 r.2.2.2.1 (vp_in_nI hi (by omega)) (by show Value.ref (E.2.1 _) = _; rw [nI_clamp (by omega)]) hd ?_
  have k2 := kk p e s m args below meth c R Fin cF ms X H locs cells slots lsA r
  rw [← xa_k hi]
  exact k2
theorem g_alenA (hd : decode M.2.1 pc = .ok (.arraylength, 1)) (kk : G E l d M (pc + 1) ls (.int 5 :: st) cnt h mr sr Q) : G E l d M pc ls (.ref 2000 :: st) cnt h mr sr Q := by
  intro p e s m args below meth c R Fin cF ms X H locs cells slots lsA r
  exact va_tlen X.1 X.2.1 X.2.2.2.2.2.2.2.2.1.2.2.2.2.2.1 r.2.2.2.1 rfl hd (kk p e s m args below meth c R Fin cF ms X H locs cells slots lsA r)
theorem g_sald {x : Int32} (hd : decode M.2.1 pc = .ok (.iaload, 1)) (hx : vp_in x E.2.2.2.2.2.2.1) (kk : G E l d M (pc + 1) ls (.int (E.2.2.2.2.2.2.2 x.toNatClampNeg) :: st) cnt h mr sr Q) : G E l d M pc ls (.int x :: .ref 3000 :: st) cnt h mr sr Q := by
  intro p e s m args below meth c R Fin cF ms X H locs cells slots lsA r
  have hb : E.2.2.2.2.2.1 < E.1 := X.2.2.2.2.2.2.2.2.1.2.2.2.2.2.2.2
  exact va_sld (b := E.2.2.2.2.2.1) X.1 X.2.1 X.2.2.2.2.2.2.2.2.1.2.2.2.2.2.2.1 (by have := X.2.2.2.2.2.2.2.1; omega) (fun q => by have q2 : E.1 ≤ E.2.2.2.2.2.1 := q; omega) r.2.2.2.1 hx hd (kk p e s m args below meth c R Fin cF ms X H locs cells slots lsA r)
theorem g_slen (hd : decode M.2.1 pc = .ok (.arraylength, 1)) (kk : G E l d M (pc + 1) ls (.int (Int32.ofNat E.2.2.2.2.2.2.1) :: st) cnt h mr sr Q) : G E l d M pc ls (.ref 3000 :: st) cnt h mr sr Q := by
  intro p e s m args below meth c R Fin cF ms X H locs cells slots lsA r
  have hb : E.2.2.2.2.2.1 < E.1 := X.2.2.2.2.2.2.2.2.1.2.2.2.2.2.2.2
  exact va_slen (b := E.2.2.2.2.2.1) X.1 X.2.1 X.2.2.2.2.2.2.2.2.1.2.2.2.2.2.2.1 (by have := X.2.2.2.2.2.2.2.1; omega) (fun q => by have q2 : E.1 ≤ E.2.2.2.2.2.1 := q; omega) r.2.2.2.1 hd (kk p e s m args below meth c R Fin cF ms X H locs cells slots lsA r)
theorem g_puti {idx ci k a : Nat} {ty : FieldType} {x : Int32} (hd : decode M.2.1 pc = .ok (.putfield idx, 3)) (hf : XF M.1.cls idx ci k ty false) (ht : xft ci k = 0) (ha : a < cnt) (hs : xsh.getD a (9, 0) = (0, ci)) (hn : narrow ty (.int x) = .int x) (hfit : fits ty (.int x) = true) (kk : G E l d M (pc + 3) ls st cnt ((upI h.1 a k x, h.2.1, h.2.2) : XH) mr sr Q) : G E l d M pc ls (.int x :: .ref a :: st) cnt h mr sr Q := by
  intro p e s m args below meth c R Fin cF ms X H locs cells slots lsA r
  obtain ⟨C, T, hc, hk, hw, hfin, hty, hC⟩ := hf
  have e1 : xa E a = E.1 + a := xa_lt (by have := r.2.1; omega)
  show W p l e R s m args below meth c H locs cells slots Fin (F0 m pc lsA (.int x :: .ref (xa E a) :: st.map (xv E)))
  rw [e1]
  obtain ⟨hin, ty0, hty0, hnm⟩ := xcls hc
  refine va_put (v := .int x) X.1 X.2.1 X.2.2.2.2.2.1 hin ty0 hty0 hnm X.2.2.2.1 X.2.2.2.2.2.2.2.2.1.1 r.2.2.1 (xw_D E cnt h) r.2.2.2.1 a ((xw_at E h ha).trans (by rw [xc_obj hs])) hc k hk (X.2.2.2.2.2.1 _ hw) (fun _ q => q) hfin hty hn hfit (by rw [List.length_map, List.length_range]; exact hk) hd (fun H1 locs1 hP1 hD1 hS1 => ?_)
  refine kk p e s m args below meth c R Fin cF ms X H1 locs1 cells slots lsA ⟨r.1, r.2.1, ?_, hS1, r.2.2.2.2⟩
  rw [xw_set (h' := ((upI h.1 a k x, h.2.1, h.2.2) : XH)) ha ?_ ?_] at hP1
  · exact hP1
  · rw [xc_obj hs]
    congr 2
    refine xfs_set ?_ ?_
    · rw [ht]
      show Value.int x = .int (upI h.1 a k x a k); unfold upI; rw [if_pos ⟨rfl, rfl⟩]
    · intro jj hj
      unfold xfv
      have e5 : ((upI h.1 a k x, h.2.1, h.2.2) : XH).1 a jj = h.1 a jj := if_neg (fun q => hj q.2)
      have e6 : ((upI h.1 a k x, h.2.1, h.2.2) : XH).2.1 a jj = h.2.1 a jj := rfl
      have e7 : ((upI h.1 a k x, h.2.1, h.2.2) : XH).2.2 a jj = h.2.2 a jj := rfl
      rw [e5, e6, e7]
  · intro b hb
    exact xc_off (upI_off hb) rfl rfl
theorem g_putiF {idx ci k a : Nat} {ty : FieldType} {x : Int32} (hd : decode M.2.1 pc = .ok (.putfield idx, 3)) (hf : XF M.1.cls idx ci k ty true) (ht : xft ci k = 0) (ha : a < cnt) (hs : xsh.getD a (9, 0) = (0, ci)) (hn : narrow ty (.int x) = .int x) (hfit : fits ty (.int x) = true) (hin2 : M.1.name = "<init>") (hown : M.1.cls = (vwCl.getD ci ("", fun _ => ("", "", "", false), 0)).1) (kk : G E l d M (pc + 3) ls st cnt ((upI h.1 a k x, h.2.1, h.2.2) : XH) mr sr Q) : G E l d M pc ls (.int x :: .ref a :: st) cnt h mr sr Q := by
  intro p e s m args below meth c R Fin cF ms X H locs cells slots lsA r
  obtain ⟨C, T, hc, hk, hw, hfin, hty, hC⟩ := hf
  have e1 : xa E a = E.1 + a := xa_lt (by have := r.2.1; omega)
  show W p l e R s m args below meth c H locs cells slots Fin (F0 m pc lsA (.int x :: .ref (xa E a) :: st.map (xv E)))
  rw [e1]
  obtain ⟨hin, ty0, hty0, hnm⟩ := xcls hc
  refine va_putF (v := .int x) X.1 X.2.1 X.2.2.2.2.2.1 hin ty0 hty0 hnm X.2.2.2.1 X.2.2.2.2.2.2.2.2.1.1 r.2.2.1 (xw_D E cnt h) r.2.2.2.1 a ((xw_at E h ha).trans (by rw [xc_obj hs])) hc k hk (X.2.2.2.2.2.1 _ hw) (fun _ q => q) hfin (X.2.2.2.2.1.trans hin2) (by rw [hC, hown, List.getD_eq_getElem?_getD, hc]; rfl) hty hn hfit (by rw [List.length_map, List.length_range]; exact hk) hd (fun H1 locs1 hP1 hD1 hS1 => ?_)
  refine kk p e s m args below meth c R Fin cF ms X H1 locs1 cells slots lsA ⟨r.1, r.2.1, ?_, hS1, r.2.2.2.2⟩
  rw [xw_set (h' := ((upI h.1 a k x, h.2.1, h.2.2) : XH)) ha ?_ ?_] at hP1
  · exact hP1
  · rw [xc_obj hs]
    congr 2
    refine xfs_set ?_ ?_
    · rw [ht]
      show Value.int x = .int (upI h.1 a k x a k); unfold upI; rw [if_pos ⟨rfl, rfl⟩]
    · intro jj hj
      unfold xfv
      have e5 : ((upI h.1 a k x, h.2.1, h.2.2) : XH).1 a jj = h.1 a jj := if_neg (fun q => hj q.2)
      have e6 : ((upI h.1 a k x, h.2.1, h.2.2) : XH).2.1 a jj = h.2.1 a jj := rfl
      have e7 : ((upI h.1 a k x, h.2.1, h.2.2) : XH).2.2 a jj = h.2.2 a jj := rfl
      rw [e5, e6, e7]
  · intro b hb
    exact xc_off (upI_off hb) rfl rfl
theorem g_putl {idx ci k a : Nat} {ty : FieldType} {x : Int64} (hd : decode M.2.1 pc = .ok (.putfield idx, 3)) (hf : XF M.1.cls idx ci k ty false) (ht : xft ci k = 1) (ha : a < cnt) (hs : xsh.getD a (9, 0) = (0, ci)) (hlt : ty = .long) (kk : G E l d M (pc + 3) ls st cnt ((h.1, upL h.2.1 a k x, h.2.2) : XH) mr sr Q) : G E l d M pc ls (.long x :: .ref a :: st) cnt h mr sr Q := by
  intro p e s m args below meth c R Fin cF ms X H locs cells slots lsA r
  obtain ⟨C, T, hc, hk, hw, hfin, hty, hC⟩ := hf
  have e1 : xa E a = E.1 + a := xa_lt (by have := r.2.1; omega)
  show W p l e R s m args below meth c H locs cells slots Fin (F0 m pc lsA (.long x :: .ref (xa E a) :: st.map (xv E)))
  rw [e1]
  obtain ⟨hin, ty0, hty0, hnm⟩ := xcls hc
  refine va_put (v := .long x) X.1 X.2.1 X.2.2.2.2.2.1 hin ty0 hty0 hnm X.2.2.2.1 X.2.2.2.2.2.2.2.2.1.1 r.2.2.1 (xw_D E cnt h) r.2.2.2.1 a ((xw_at E h ha).trans (by rw [xc_obj hs])) hc k hk (X.2.2.2.2.2.1 _ hw) (fun _ q => q) hfin hty (by rw [hlt]; rfl) (by rw [hlt]; rfl) (by rw [List.length_map, List.length_range]; exact hk) hd (fun H1 locs1 hP1 hD1 hS1 => ?_)
  refine kk p e s m args below meth c R Fin cF ms X H1 locs1 cells slots lsA ⟨r.1, r.2.1, ?_, hS1, r.2.2.2.2⟩
  rw [xw_set (h' := ((h.1, upL h.2.1 a k x, h.2.2) : XH)) ha ?_ ?_] at hP1
  · exact hP1
  · rw [xc_obj hs]
    congr 2
    refine xfs_set ?_ ?_
    · rw [ht]
      show Value.long x = .long (upL h.2.1 a k x a k); unfold upL; rw [if_pos ⟨rfl, rfl⟩]
    · intro jj hj
      unfold xfv
      have e5 : ((h.1, upL h.2.1 a k x, h.2.2) : XH).1 a jj = h.1 a jj := rfl
      have e6 : ((h.1, upL h.2.1 a k x, h.2.2) : XH).2.1 a jj = h.2.1 a jj := if_neg (fun q => hj q.2)
      have e7 : ((h.1, upL h.2.1 a k x, h.2.2) : XH).2.2 a jj = h.2.2 a jj := rfl
      rw [e5, e6, e7]
  · intro b hb
    exact xc_off rfl (upL_off hb) rfl
theorem g_putk {idx ci k a : Nat} {ty : FieldType} {j : Nat} (hd : decode M.2.1 pc = .ok (.putfield idx, 3)) (hf : XF M.1.cls idx ci k ty false) (ht : xft ci k = 3) (ha : a < cnt) (hs : xsh.getD a (9, 0) = (0, ci)) (hj5 : j < 5) (hty1 : ∃ n, ty = .object n) (kk : G E l d M (pc + 3) ls st cnt ((upI h.1 a k (nI j), h.2.1, h.2.2) : XH) mr sr Q) : G E l d M pc ls (.ref (1000 + j) :: .ref a :: st) cnt h mr sr Q := by
  intro p e s m args below meth c R Fin cF ms X H locs cells slots lsA r
  obtain ⟨C, T, hc, hk, hw, hfin, hty, hC⟩ := hf
  have e1 : xa E a = E.1 + a := xa_lt (by have := r.2.1; omega)
  show W p l e R s m args below meth c H locs cells slots Fin (F0 m pc lsA (.ref (xa E (1000 + j)) :: .ref (xa E a) :: st.map (xv E)))
  rw [e1]
  obtain ⟨hin, ty0, hty0, hnm⟩ := xcls hc
  refine va_put (v := .ref (xa E (1000 + j))) X.1 X.2.1 X.2.2.2.2.2.1 hin ty0 hty0 hnm X.2.2.2.1 X.2.2.2.2.2.2.2.2.1.1 r.2.2.1 (xw_D E cnt h) r.2.2.2.1 a ((xw_at E h ha).trans (by rw [xc_obj hs])) hc k hk (X.2.2.2.2.2.1 _ hw) (fun _ q => q) hfin hty (by obtain ⟨n, rfl⟩ := hty1; rfl) (by obtain ⟨n, rfl⟩ := hty1; rfl) (by rw [List.length_map, List.length_range]; exact hk) hd (fun H1 locs1 hP1 hD1 hS1 => ?_)
  refine kk p e s m args below meth c R Fin cF ms X H1 locs1 cells slots lsA ⟨r.1, r.2.1, ?_, hS1, r.2.2.2.2⟩
  rw [xw_set (h' := ((upI h.1 a k (nI j), h.2.1, h.2.2) : XH)) ha ?_ ?_] at hP1
  · exact hP1
  · rw [xc_obj hs]
    congr 2
    refine xfs_set ?_ ?_
    · rw [ht]
      show Value.ref (xa E (1000 + j)) = va_re E.2.1 (xk (upI h.1 a k (nI j) a k)); unfold upI; rw [if_pos ⟨rfl, rfl⟩, xk_of hj5, xa_k hj5]; rfl
    · intro jj hj
      unfold xfv
      have e5 : ((upI h.1 a k (nI j), h.2.1, h.2.2) : XH).1 a jj = h.1 a jj := if_neg (fun q => hj q.2)
      have e6 : ((upI h.1 a k (nI j), h.2.1, h.2.2) : XH).2.1 a jj = h.2.1 a jj := rfl
      have e7 : ((upI h.1 a k (nI j), h.2.1, h.2.2) : XH).2.2 a jj = h.2.2 a jj := rfl
      rw [e5, e6, e7]
  · intro b hb
    exact xc_off (upI_off hb) rfl rfl
theorem g_putrF {idx ci k a : Nat} {ty : FieldType} {b : Nat} (hd : decode M.2.1 pc = .ok (.putfield idx, 3)) (hf : XF M.1.cls idx ci k ty true) (ht : xft ci k = 2) (ha : a < cnt) (hs : xsh.getD a (9, 0) = (0, ci)) (hty1 : (∃ n, ty = .object n) ∨ ∃ t, ty = .array t) (hin2 : M.1.name = "<init>") (hown : M.1.cls = (vwCl.getD ci ("", fun _ => ("", "", "", false), 0)).1) (kk : G E l d M (pc + 3) ls st cnt ((h.1, h.2.1, upR h.2.2 a k (some b)) : XH) mr sr Q) : G E l d M pc ls (.ref b :: .ref a :: st) cnt h mr sr Q := by
  intro p e s m args below meth c R Fin cF ms X H locs cells slots lsA r
  obtain ⟨C, T, hc, hk, hw, hfin, hty, hC⟩ := hf
  have e1 : xa E a = E.1 + a := xa_lt (by have := r.2.1; omega)
  show W p l e R s m args below meth c H locs cells slots Fin (F0 m pc lsA (.ref (xa E b) :: .ref (xa E a) :: st.map (xv E)))
  rw [e1]
  obtain ⟨hin, ty0, hty0, hnm⟩ := xcls hc
  refine va_putF (v := .ref (xa E b)) X.1 X.2.1 X.2.2.2.2.2.1 hin ty0 hty0 hnm X.2.2.2.1 X.2.2.2.2.2.2.2.2.1.1 r.2.2.1 (xw_D E cnt h) r.2.2.2.1 a ((xw_at E h ha).trans (by rw [xc_obj hs])) hc k hk (X.2.2.2.2.2.1 _ hw) (fun _ q => q) hfin (X.2.2.2.2.1.trans hin2) (by rw [hC, hown, List.getD_eq_getElem?_getD, hc]; rfl) hty (by rcases hty1 with ⟨n, rfl⟩ | ⟨n, rfl⟩ <;> rfl) (by rcases hty1 with ⟨n, rfl⟩ | ⟨n, rfl⟩ <;> rfl) (by rw [List.length_map, List.length_range]; exact hk) hd (fun H1 locs1 hP1 hD1 hS1 => ?_)
  refine kk p e s m args below meth c R Fin cF ms X H1 locs1 cells slots lsA ⟨r.1, r.2.1, ?_, hS1, r.2.2.2.2⟩
  rw [xw_set (h' := ((h.1, h.2.1, upR h.2.2 a k (some b)) : XH)) ha ?_ ?_] at hP1
  · exact hP1
  · rw [xc_obj hs]
    congr 2
    refine xfs_set ?_ ?_
    · rw [ht]
      show Value.ref (xa E b) = va_rf ((upR h.2.2 a k (some b) a k).map (xa E)); unfold upR; rw [if_pos ⟨rfl, rfl⟩]; rfl
    · intro jj hj
      unfold xfv
      have e5 : ((h.1, h.2.1, upR h.2.2 a k (some b)) : XH).1 a jj = h.1 a jj := rfl
      have e6 : ((h.1, h.2.1, upR h.2.2 a k (some b)) : XH).2.1 a jj = h.2.1 a jj := rfl
      have e7 : ((h.1, h.2.1, upR h.2.2 a k (some b)) : XH).2.2 a jj = h.2.2 a jj := if_neg (fun q => hj q.2)
      rw [e5, e6, e7]
  · intro b hb
    exact xc_off rfl rfl (upR_off hb)
theorem g_iald {a n : Nat} {x : Int32} (hd : decode M.2.1 pc = .ok (.iaload, 1)) (ha : a < cnt) (hs : xsh.getD a (9, 0) = (1, n)) (hx : vp_in x n) (kk : G E l d M (pc + 1) ls (.int (h.1 a x.toNatClampNeg) :: st) cnt h mr sr Q) : G E l d M pc ls (.int x :: .ref a :: st) cnt h mr sr Q := by
  intro p e s m args below meth c R Fin cF ms X H locs cells slots lsA r
  have e1 : xa E a = E.1 + a := xa_lt (by have := r.2.1; omega)
  show W p l e R s m args below meth c H locs cells slots Fin (F0 m pc lsA (.int x :: .ref (xa E a) :: st.map (xv E)))
  rw [e1]
  exact va_iald X.1 X.2.1 X.2.2.2.2.2.2.2.2.1.1 r.2.2.1 a 0 ((xw_at E h ha).trans (by rw [xc_int hs])) rfl hx hd (kk p e s m args below meth c R Fin cF ms X H locs cells slots lsA r)
theorem g_zald {a n : Nat} {x : Int32} (hd : decode M.2.1 pc = .ok (.baload, 1)) (ha : a < cnt) (hs : xsh.getD a (9, 0) = (2, n)) (hx : vp_in x n) (kk : G E l d M (pc + 1) ls (.int (h.1 a x.toNatClampNeg) :: st) cnt h mr sr Q) : G E l d M pc ls (.int x :: .ref a :: st) cnt h mr sr Q := by
  intro p e s m args below meth c R Fin cF ms X H locs cells slots lsA r
  have e1 : xa E a = E.1 + a := xa_lt (by have := r.2.1; omega)
  show W p l e R s m args below meth c H locs cells slots Fin (F0 m pc lsA (.int x :: .ref (xa E a) :: st.map (xv E)))
  rw [e1]
  exact va_zald X.1 X.2.1 X.2.2.2.2.2.2.2.2.1.1 r.2.2.1 a 1 ((xw_at E h ha).trans (by rw [xc_boo hs])) rfl hx hd (kk p e s m args below meth c R Fin cF ms X H locs cells slots lsA r)
theorem g_bald {a n : Nat} {x : Int32} (hd : decode M.2.1 pc = .ok (.baload, 1)) (ha : a < cnt) (hs : xsh.getD a (9, 0) = (3, n)) (hx : vp_in x n) (kk : G E l d M (pc + 1) ls (.int (h.1 a x.toNatClampNeg) :: st) cnt h mr sr Q) : G E l d M pc ls (.int x :: .ref a :: st) cnt h mr sr Q := by
  intro p e s m args below meth c R Fin cF ms X H locs cells slots lsA r
  have e1 : xa E a = E.1 + a := xa_lt (by have := r.2.1; omega)
  show W p l e R s m args below meth c H locs cells slots Fin (F0 m pc lsA (.int x :: .ref (xa E a) :: st.map (xv E)))
  rw [e1]
  exact va_bald X.1 X.2.1 X.2.2.2.2.2.2.2.2.1.1 r.2.2.1 a 2 ((xw_at E h ha).trans (by rw [xc_byt hs])) rfl hx hd (kk p e s m args below meth c R Fin cF ms X H locs cells slots lsA r)
theorem g_aald {a n i b : Nat} {x : Int32} (hd : decode M.2.1 pc = .ok (.aaload, 1)) (ha : a < cnt) (hs : xsh.getD a (9, 0) = (4, n)) (hx : x = nI i) (hi : i < n) (hn : n < 2 ^ 31) (hb : h.2.2 a i = some b) (kk : G E l d M (pc + 1) ls (.ref b :: st) cnt h mr sr Q) : G E l d M pc ls (.int x :: .ref a :: st) cnt h mr sr Q := by
  intro p e s m args below meth c R Fin cF ms X H locs cells slots lsA r
  have e1 : xa E a = E.1 + a := xa_lt (by have := r.2.1; omega)
  show W p l e R s m args below meth c H locs cells slots Fin (F0 m pc lsA (.int x :: .ref (xa E a) :: st.map (xv E)))
  rw [e1]
  subst hx
  refine va_aldq X.1 X.2.1 X.2.2.2.2.2.2.2.2.1.1 r.2.2.1 a 3 ((xw_at E h ha).trans (by rw [xc_ref hs])) rfl (vp_in_nI hi hn) hd ?_
  rw [nI_clamp (by omega), hb]
  exact (kk p e s m args below meth c R Fin cF ms X H locs cells slots lsA r)
theorem g_alen {a n t : Nat} (hd : decode M.2.1 pc = .ok (.arraylength, 1)) (ha : a < cnt) (hs : xsh.getD a (9, 0) = (t, n)) (ht : t = 1 ∨ t = 4) (kk : G E l d M (pc + 1) ls (.int (nI n) :: st) cnt h mr sr Q) : G E l d M pc ls (.ref a :: st) cnt h mr sr Q := by
  intro p e s m args below meth c R Fin cF ms X H locs cells slots lsA r
  have e1 : xa E a = E.1 + a := xa_lt (by have := r.2.1; omega)
  show W p l e R s m args below meth c H locs cells slots Fin (F0 m pc lsA (.ref (xa E a) :: st.map (xv E)))
  rw [e1]
  rcases ht with rfl | rfl
  · exact va_alen (x := (n, .inl (h.1 a))) (v := nI n) X.1 X.2.1 X.2.2.2.2.2.2.2.2.1.1 r.2.2.1 a 0 ((xw_at E h ha).trans (by rw [xc_int hs])) rfl rfl hd (kk p e s m args below meth c R Fin cF ms X H locs cells slots lsA r)
  · exact va_alen (x := (n, .inr (.inr (.inr (.inr (fun k => (h.2.2 a k).map (xa E))))))) (v := nI n) X.1 X.2.1 X.2.2.2.2.2.2.2.2.1.1 r.2.2.1 a 3 ((xw_at E h ha).trans (by rw [xc_ref hs])) rfl rfl hd (kk p e s m args below meth c R Fin cF ms X H locs cells slots lsA r)
theorem g_iast {a n : Nat} {x y : Int32} (hd : decode M.2.1 pc = .ok (.iastore, 1)) (ha : a < cnt) (hs : xsh.getD a (9, 0) = (1, n)) (hx : vp_in x n) (kk : G E l d M (pc + 1) ls st cnt ((upI h.1 a x.toNatClampNeg y, h.2.1, h.2.2) : XH) mr sr Q) : G E l d M pc ls (.int y :: .int x :: .ref a :: st) cnt h mr sr Q := by
  intro p e s m args below meth c R Fin cF ms X H locs cells slots lsA r
  have e1 : xa E a = E.1 + a := xa_lt (by have := r.2.1; omega)
  show W p l e R s m args below meth c H locs cells slots Fin (F0 m pc lsA (.int y :: .int x :: .ref (xa E a) :: st.map (xv E)))
  rw [e1]
  refine va_iast X.1 X.2.1 X.2.2.2.2.2.2.2.2.1.1 r.2.2.1 (xw_D E cnt h) r.2.2.2.1 a 0 ((xw_at E h ha).trans (by rw [xc_int hs])) rfl hx hd (fun H1 locs1 hP1 hD1 hS1 => ?_)
  refine kk p e s m args below meth c R Fin cF ms X H1 locs1 cells slots lsA ⟨r.1, r.2.1, ?_, hS1, r.2.2.2.2⟩
  rw [xw_set (h' := ((upI h.1 a x.toNatClampNeg y, h.2.1, h.2.2) : XH)) ha ?_ ?_] at hP1
  · exact hP1
  · rw [xc_int hs]
    show _ = Sum.inl (_, n, Sum.inl (upI h.1 a x.toNatClampNeg y a))
    rw [upI_on]
  · intro b hb
    exact xc_off (upI_off hb) rfl rfl
theorem g_zast {a n : Nat} {x y : Int32} (hd : decode M.2.1 pc = .ok (.bastore, 1)) (ha : a < cnt) (hs : xsh.getD a (9, 0) = (2, n)) (hx : vp_in x n) (kk : G E l d M (pc + 1) ls st cnt ((upI h.1 a x.toNatClampNeg (vp_nar .boolean y), h.2.1, h.2.2) : XH) mr sr Q) : G E l d M pc ls (.int y :: .int x :: .ref a :: st) cnt h mr sr Q := by
  intro p e s m args below meth c R Fin cF ms X H locs cells slots lsA r
  have e1 : xa E a = E.1 + a := xa_lt (by have := r.2.1; omega)
  show W p l e R s m args below meth c H locs cells slots Fin (F0 m pc lsA (.int y :: .int x :: .ref (xa E a) :: st.map (xv E)))
  rw [e1]
  refine va_zast X.1 X.2.1 X.2.2.2.2.2.2.2.2.1.1 r.2.2.1 (xw_D E cnt h) r.2.2.2.1 a 1 ((xw_at E h ha).trans (by rw [xc_boo hs])) rfl hx hd (fun H1 locs1 hP1 hD1 hS1 => ?_)
  refine kk p e s m args below meth c R Fin cF ms X H1 locs1 cells slots lsA ⟨r.1, r.2.1, ?_, hS1, r.2.2.2.2⟩
  rw [xw_set (h' := ((upI h.1 a x.toNatClampNeg (vp_nar .boolean y), h.2.1, h.2.2) : XH)) ha ?_ ?_] at hP1
  · exact hP1
  · rw [xc_boo hs]
    show _ = Sum.inl (_, n, Sum.inl (upI h.1 a x.toNatClampNeg (vp_nar .boolean y) a))
    rw [upI_on]
  · intro b hb
    exact xc_off (upI_off hb) rfl rfl
theorem g_bast {a n : Nat} {x y : Int32} (hd : decode M.2.1 pc = .ok (.bastore, 1)) (ha : a < cnt) (hs : xsh.getD a (9, 0) = (3, n)) (hx : vp_in x n) (kk : G E l d M (pc + 1) ls st cnt ((upI h.1 a x.toNatClampNeg (vp_nar .byte y), h.2.1, h.2.2) : XH) mr sr Q) : G E l d M pc ls (.int y :: .int x :: .ref a :: st) cnt h mr sr Q := by
  intro p e s m args below meth c R Fin cF ms X H locs cells slots lsA r
  have e1 : xa E a = E.1 + a := xa_lt (by have := r.2.1; omega)
  show W p l e R s m args below meth c H locs cells slots Fin (F0 m pc lsA (.int y :: .int x :: .ref (xa E a) :: st.map (xv E)))
  rw [e1]
  refine va_bast X.1 X.2.1 X.2.2.2.2.2.2.2.2.1.1 r.2.2.1 (xw_D E cnt h) r.2.2.2.1 a 2 ((xw_at E h ha).trans (by rw [xc_byt hs])) rfl hx hd (fun H1 locs1 hP1 hD1 hS1 => ?_)
  refine kk p e s m args below meth c R Fin cF ms X H1 locs1 cells slots lsA ⟨r.1, r.2.1, ?_, hS1, r.2.2.2.2⟩
  rw [xw_set (h' := ((upI h.1 a x.toNatClampNeg (vp_nar .byte y), h.2.1, h.2.2) : XH)) ha ?_ ?_] at hP1
  · exact hP1
  · rw [xc_byt hs]
    show _ = Sum.inl (_, n, Sum.inl (upI h.1 a x.toNatClampNeg (vp_nar .byte y) a))
    rw [upI_on]
  · intro b hb
    exact xc_off (upI_off hb) rfl rfl
theorem g_aast {a n i b : Nat} {x : Int32} (hd : decode M.2.1 pc = .ok (.aastore, 1)) (ha : a < cnt) (hs : xsh.getD a (9, 0) = (4, n)) (hx : x = nI i) (hi : i < n) (hn : n < 2 ^ 31) (hb : b < cnt) (hsb : xsh.getD b (9, 0) = (0, 3)) (kk : G E l d M (pc + 1) ls st cnt ((h.1, h.2.1, upR h.2.2 a i (some b)) : XH) mr sr Q) : G E l d M pc ls (.ref b :: .int x :: .ref a :: st) cnt h mr sr Q := by
  intro p e s m args below meth c R Fin cF ms X H locs cells slots lsA r
  have e1 : xa E a = E.1 + a := xa_lt (by have := r.2.1; omega)
  have e2 : xa E b = E.1 + b := xa_lt (by have := r.2.1; omega)
  show W p l e R s m args below meth c H locs cells slots Fin (F0 m pc lsA (.ref (xa E b) :: .int x :: .ref (xa E a) :: st.map (xv E)))
  rw [e1, e2]
  subst hx
  refine va_astq (r := (RX5, TX5, 12)) X.1 X.2.1 X.2.2.2.2.2.2.2.2.1.1 r.2.2.1 (xw_D E cnt h) r.2.2.2.1 a 3 b 3 ((xw_at E h ha).trans (by rw [xc_ref hs])) rfl ((xw_at E h hb).trans (by rw [xc_obj hsb])) rfl (vp_in_nI hi hn) hd (fun H1 locs1 hP1 hD1 hS1 => ?_)
  refine kk p e s m args below meth c R Fin cF ms X H1 locs1 cells slots lsA ⟨r.1, r.2.1, ?_, hS1, r.2.2.2.2⟩
  rw [xw_set (h' := ((h.1, h.2.1, upR h.2.2 a i (some b)) : XH)) ha ?_ ?_] at hP1
  · exact hP1
  · rw [xc_ref hs, nI_clamp (by omega)]
    show _ = Sum.inl (_, n, Sum.inr (Sum.inr (Sum.inr (Sum.inr (fun k => (upR h.2.2 a i (some b) a k).map (xa E))))))
    rw [upR_on, ← e2]
    congr 7
    funext j
    unfold va_up
    by_cases hj : j = i
    · rw [if_pos hj, if_pos hj]
      rfl
    · rw [if_neg hj, if_neg hj]
  · intro b2 hb2
    exact xc_off rfl rfl (upR_off hb2)
/-- a new cell: noughts, no references; a kind that is none -/
def hnew (h : XH) (a : Nat) : XH := (fun b k => if b = a then (if xsh.getD a (9, 0) = (0, 3) ∧ k = 2 then 5 else 0) else h.1 b k, fun b k => if b = a then 0 else h.2.1 b k, fun b k => if b = a then none else h.2.2 b k)
theorem x_fresh {E : XE} {cnt : Nat} {h : XH} {q : Nat} {e : va_E} {H1 : Heap} {D : va_G} {cl : List vw_C} (hD : va_D (xA E) (xw E cnt h ++ [(q, e)])) (hP : va_P D cl (xw E cnt h ++ [(q, e)]) H1) (hz : H1.size ≤ E.1 + cnt + 1) : q = E.1 + cnt := by
  have h1 : (xw E cnt h ++ [(q, e)])[cnt]? = some (q, e) := by
    rw [List.getElem?_append_right (by rw [xw_len]; exact Nat.le_refl _), xw_len, Nat.sub_self]
    rfl
  have h2 : q < H1.size := (hP cnt _ h1).lt
  have h3 : E.1 ≤ q := hD.2 cnt _ h1
  refine Classical.byContradiction (fun hne => ?_)
  have h4 : q - E.1 < cnt := by omega
  have h5 : (xw E cnt h ++ [(q, e)])[q - E.1]? = some (E.1 + (q - E.1), xcell E h (q - E.1)) := by
    rw [List.getElem?_append_left (by rw [xw_len]; exact h4), xw_at E h h4]
  have h6 := hD.1 _ _ _ _ h5 h1 (by show E.1 + (q - E.1) = q; omega)
  omega
theorem hnew_off {h : XH} {a b : Nat} {E : XE} (hb : b < a) : xcell E (hnew h a) b = xcell E h b := by
  have hne : ¬ b = a := by omega
  refine xc_off ?_ ?_ ?_
  · funext k; exact if_neg hne
  · funext k; exact if_neg hne
  · funext k; exact if_neg hne

theorem g_new {idx ci : Nat} {C : String} {T : u_T} {ty : Nat → FieldType} (hd : decode M.2.1 pc = .ok (.new idx, 3)) (hc : vwCl[ci]? = some (C, T, xnf ci)) (hw : Cond.classLink M.1.cls idx C ∈ xtbl ∧ Cond.instantiable C (xnf ci) ∈ xtbl ∧ Cond.initialized C ∈ xtbl) (hty : ∀ k, k < xnf ci → parseFieldDescriptor (T k).2.2.1 = some (ty k)) (hs : xsh.getD cnt (9, 0) = (0, ci)) (hdv : ∀ j, j < xnf ci → defaultValue (ty j) = xfv E (hnew h cnt) cnt j (xft ci j)) (hcn : cnt < 1000) (kk : G E l d M (pc + 3) ls (.ref cnt :: st) (cnt + 1) (hnew h cnt) mr sr Q) : G E l d M pc ls st cnt h (mr + 1) (sr + xnf ci) Q := by
  intro p e s m args below meth c R Fin cF ms X H locs cells slots lsA r
  refine W.size (fun hz => ?_)
  have hsz := r.size X.2.2.2.2.2.2.2.1 hz
  have hb := X.2.2.2.2.2.2.2.1
  have r1 := r.1
  have r6 := r.2.2.2.2.2.1
  have r7 := r.2.2.2.2.2.2
  have hR := X.2.2.2.2.2.2.1
  refine va_new (fs := (List.range (xnf ci)).map (fun k => xfv E (hnew h cnt) cnt k (xft ci k))) X.1 X.2.1 X.2.2.2.2.2.1 (xcls hc).1 ty hty X.2.2.2.1 (X.2.2.2.2.2.1 _ hw.1) (X.2.2.2.2.2.1 _ hw.2.1) (X.2.2.2.2.2.1 _ hw.2.2) X.2.2.2.2.2.2.2.2.1.1 r.2.2.1 (xw_D E cnt h) r.2.2.2.1 (fun q hq => by show E.1 ≤ q; omega) hc (fun j hj => by rw [hdv j hj]; unfold vp_V; rw [List.getD_eq_getElem?_getD, xfs_get hj]; rfl) (by omega) (by omega) hd (fun q H1 hP1 hD1 hS1 => ?_)
  refine W.size (fun hz1 => ?_)
  have hq : q = E.1 + cnt := x_fresh hD1 hP1 (by omega)
  subst hq
  rw [xw_push (h' := hnew h cnt) (by rw [xc_obj hs]) (fun b hb2 => hnew_off hb2)] at hP1
  have k2 := kk p e s m args below meth c R Fin cF ms X H1 locs (cells + 1) (slots + xnf ci) lsA ⟨by omega, by omega, hP1, hS1, r.2.2.2.2.1, by omega, by omega⟩
  rw [← xa_lt hcn]
  exact k2
theorem g_newI {n : Nat} {x : Int32} (hd : decode M.2.1 pc = .ok (.newarray .int, 2)) (hw : Cond.arrayClass .int ∈ xtbl) (hx : x = nI n) (hn : n ≤ 1000) (hs : xsh.getD cnt (9, 0) = (1, n)) (hcn : cnt < 1000) (kk : G E l d M (pc + 2) ls (.ref cnt :: st) (cnt + 1) (hnew h cnt) mr sr Q) : G E l d M pc ls (.int x :: st) cnt h (mr + 1) (sr + n) Q := by
  intro p e s m args below meth c R Fin cF ms X H locs cells slots lsA r
  refine W.size (fun hz => ?_)
  have hsz := r.size X.2.2.2.2.2.2.2.1 hz
  have hb := X.2.2.2.2.2.2.2.1
  have r1 := r.1
  have r6 := r.2.2.2.2.2.1
  have r7 := r.2.2.2.2.2.2
  have hR := X.2.2.2.2.2.2.1
  subst hx
  refine va_newa (atype := .int) (ty := .int) (N' := n) (a0 := (n, .inl (fun _ => 0))) X.1 X.2.1 (X.2.2.2.2.2.1 _ hw) rfl X.2.2.2.2.2.2.2.2.1.1 r.2.2.1 (xw_D E cnt h) r.2.2.2.1 (fun q hq => by show E.1 ≤ q; omega) (fun cA => rfl) (nI_pos (by omega)) (nI_clamp (by omega)) (by show n * _ ≤ 536870912; exact Nat.le_trans (Nat.mul_le_mul hn (by decide : componentBytes .int ≤ 8)) (by decide)) (by omega) (by omega) hd (fun q cA H1 hK1 hP1 hD1 hS1 => ?_)
  have hcA : cA = E.2.2.2.2.1.1 := by
    have h1 := (hK1.2 4 (cA, .int) rfl).2
    have h2 := ((X.2.2.2.2.2.2.2.2.1).1.2 0 _ rfl).2
    exact Option.some.inj (h1.symm.trans h2)
  subst hcA
  refine W.size (fun hz1 => ?_)
  have hq : q = E.1 + cnt := x_fresh hD1 hP1 (by omega)
  subst hq
  have hnew0 : (hnew h cnt).1 cnt = fun _ => 0 := by
    funext k
    show (if cnt = cnt then (if xsh.getD cnt (9, 0) = (0, 3) ∧ k = 2 then (5 : Int32) else 0) else h.1 cnt k) = 0
    rw [if_pos rfl, if_neg (by rw [hs]; intro q; cases q.1)]
  rw [xw_push (h' := hnew h cnt) (by rw [xc_int hs, hnew0]) (fun b hb2 => hnew_off hb2)] at hP1
  have k2 := kk p e s m args below meth c R Fin cF ms X H1 locs (cells + 1) (slots + n) lsA ⟨by omega, by omega, hP1, hS1, r.2.2.2.2.1, by omega, by omega⟩
  rw [← xa_lt hcn]
  exact k2
theorem g_newZ {n : Nat} {x : Int32} (hd : decode M.2.1 pc = .ok (.newarray .boolean, 2)) (hw : Cond.arrayClass .boolean ∈ xtbl) (hx : x = nI n) (hn : n ≤ 1000) (hs : xsh.getD cnt (9, 0) = (2, n)) (hcn : cnt < 1000) (kk : G E l d M (pc + 2) ls (.ref cnt :: st) (cnt + 1) (hnew h cnt) mr sr Q) : G E l d M pc ls (.int x :: st) cnt h (mr + 1) (sr + n) Q := by
  intro p e s m args below meth c R Fin cF ms X H locs cells slots lsA r
  refine W.size (fun hz => ?_)
  have hsz := r.size X.2.2.2.2.2.2.2.1 hz
  have hb := X.2.2.2.2.2.2.2.1
  have r1 := r.1
  have r6 := r.2.2.2.2.2.1
  have r7 := r.2.2.2.2.2.2
  have hR := X.2.2.2.2.2.2.1
  subst hx
  refine va_newa (atype := .boolean) (ty := .boolean) (N' := n) (a0 := (n, .inl (fun _ => 0))) X.1 X.2.1 (X.2.2.2.2.2.1 _ hw) rfl X.2.2.2.2.2.2.2.2.1.1 r.2.2.1 (xw_D E cnt h) r.2.2.2.1 (fun q hq => by show E.1 ≤ q; omega) (fun cA => rfl) (nI_pos (by omega)) (nI_clamp (by omega)) (by show n * _ ≤ 536870912; exact Nat.le_trans (Nat.mul_le_mul hn (by decide : componentBytes .boolean ≤ 8)) (by decide)) (by omega) (by omega) hd (fun q cA H1 hK1 hP1 hD1 hS1 => ?_)
  have hcA : cA = E.2.2.2.2.1.2.1 := by
    have h1 := (hK1.2 4 (cA, .boolean) rfl).2
    have h2 := ((X.2.2.2.2.2.2.2.2.1).1.2 1 _ rfl).2
    exact Option.some.inj (h1.symm.trans h2)
  subst hcA
  refine W.size (fun hz1 => ?_)
  have hq : q = E.1 + cnt := x_fresh hD1 hP1 (by omega)
  subst hq
  have hnew0 : (hnew h cnt).1 cnt = fun _ => 0 := by
    funext k
    show (if cnt = cnt then (if xsh.getD cnt (9, 0) = (0, 3) ∧ k = 2 then (5 : Int32) else 0) else h.1 cnt k) = 0
    rw [if_pos rfl, if_neg (by rw [hs]; intro q; cases q.1)]
  rw [xw_push (h' := hnew h cnt) (by rw [xc_boo hs, hnew0]) (fun b hb2 => hnew_off hb2)] at hP1
  have k2 := kk p e s m args below meth c R Fin cF ms X H1 locs (cells + 1) (slots + n) lsA ⟨by omega, by omega, hP1, hS1, r.2.2.2.2.1, by omega, by omega⟩
  rw [← xa_lt hcn]
  exact k2
theorem g_newB {n : Nat} {x : Int32} (hd : decode M.2.1 pc = .ok (.newarray .byte, 2)) (hw : Cond.arrayClass .byte ∈ xtbl) (hx : x = nI n) (hn : n ≤ 1000) (hs : xsh.getD cnt (9, 0) = (3, n)) (hcn : cnt < 1000) (kk : G E l d M (pc + 2) ls (.ref cnt :: st) (cnt + 1) (hnew h cnt) mr sr Q) : G E l d M pc ls (.int x :: st) cnt h (mr + 1) (sr + n) Q := by
  intro p e s m args below meth c R Fin cF ms X H locs cells slots lsA r
  refine W.size (fun hz => ?_)
  have hsz := r.size X.2.2.2.2.2.2.2.1 hz
  have hb := X.2.2.2.2.2.2.2.1
  have r1 := r.1
  have r6 := r.2.2.2.2.2.1
  have r7 := r.2.2.2.2.2.2
  have hR := X.2.2.2.2.2.2.1
  subst hx
  refine va_newa (atype := .byte) (ty := .byte) (N' := n) (a0 := (n, .inl (fun _ => 0))) X.1 X.2.1 (X.2.2.2.2.2.1 _ hw) rfl X.2.2.2.2.2.2.2.2.1.1 r.2.2.1 (xw_D E cnt h) r.2.2.2.1 (fun q hq => by show E.1 ≤ q; omega) (fun cA => rfl) (nI_pos (by omega)) (nI_clamp (by omega)) (by show n * _ ≤ 536870912; exact Nat.le_trans (Nat.mul_le_mul hn (by decide : componentBytes .byte ≤ 8)) (by decide)) (by omega) (by omega) hd (fun q cA H1 hK1 hP1 hD1 hS1 => ?_)
  have hcA : cA = E.2.2.2.2.1.2.2.1 := by
    have h1 := (hK1.2 4 (cA, .byte) rfl).2
    have h2 := ((X.2.2.2.2.2.2.2.2.1).1.2 2 _ rfl).2
    exact Option.some.inj (h1.symm.trans h2)
  subst hcA
  refine W.size (fun hz1 => ?_)
  have hq : q = E.1 + cnt := x_fresh hD1 hP1 (by omega)
  subst hq
  have hnew0 : (hnew h cnt).1 cnt = fun _ => 0 := by
    funext k
    show (if cnt = cnt then (if xsh.getD cnt (9, 0) = (0, 3) ∧ k = 2 then (5 : Int32) else 0) else h.1 cnt k) = 0
    rw [if_pos rfl, if_neg (by rw [hs]; intro q; cases q.1)]
  rw [xw_push (h' := hnew h cnt) (by rw [xc_byt hs, hnew0]) (fun b hb2 => hnew_off hb2)] at hP1
  have k2 := kk p e s m args below meth c R Fin cF ms X H1 locs (cells + 1) (slots + n) lsA ⟨by omega, by omega, hP1, hS1, r.2.2.2.2.1, by omega, by omega⟩
  rw [← xa_lt hcn]
  exact k2
theorem g_newP {n idx : Nat} {x : Int32} (hd : decode M.2.1 pc = .ok (.anewarray idx, 3)) (hw : Cond.classLink M.1.cls idx "ThumbSea$Person" ∈ xtbl) (hx : x = nI n) (hn : n ≤ 1000) (hs : xsh.getD cnt (9, 0) = (4, n)) (hcn : cnt < 1000) (kk : G E l d M (pc + 3) ls (.ref cnt :: st) (cnt + 1) (hnew h cnt) mr sr Q) : G E l d M pc ls (.int x :: st) cnt h (mr + 1) (sr + n) Q := by
  intro p e s m args below meth c R Fin cF ms X H locs cells slots lsA r
  refine W.size (fun hz => ?_)
  have hsz := r.size X.2.2.2.2.2.2.2.1 hz
  have hb := X.2.2.2.2.2.2.2.1
  have r1 := r.1
  have r6 := r.2.2.2.2.2.1
  have r7 := r.2.2.2.2.2.2
  have hR := X.2.2.2.2.2.2.1
  subst hx
  refine va_newq (N' := n) X.1 X.2.1 X.2.2.2.1 (X.2.2.2.2.2.1 _ hw) X.2.2.2.2.2.2.2.2.1.2.2.1 X.2.2.2.2.2.2.2.2.1.1 r.2.2.1 (xw_D E cnt h) r.2.2.2.1 (fun q hq => by show E.1 ≤ q; omega) (nI_pos (by omega)) (nI_clamp (by omega)) (by omega) (by omega) (by omega) hd (fun q cA H1 hK1 hP1 hD1 hS1 => ?_)
  have hcA : cA = E.2.2.2.2.1.2.2.2 := by
    obtain ⟨kA, comp, -, -, -, h1⟩ := (hK1.2 4 (cA, .object "ThumbSea$Person") rfl).2
    obtain ⟨kA2, comp2, -, -, -, h2⟩ := ((X.2.2.2.2.2.2.2.2.1).1.2 3 _ rfl).2
    exact Option.some.inj (h1.symm.trans h2)
  subst hcA
  refine W.size (fun hz1 => ?_)
  have hq : q = E.1 + cnt := x_fresh hD1 hP1 (by omega)
  subst hq
  rw [xw_push (h' := hnew h cnt) (by rw [xc_ref hs]; congr 7; funext k; show none = Option.map _ (if cnt = cnt then none else h.2.2 cnt k); rw [if_pos rfl]; rfl) (fun b hb2 => hnew_off hb2)] at hP1
  have k2 := kk p e s m args below meth c R Fin cF ms X H1 locs (cells + 1) (slots + n) lsA ⟨by omega, by omega, hP1, hS1, r.2.2.2.2.1, by omega, by omega⟩
  rw [← xa_lt hcn]
  exact k2
theorem g_objInit {idx a : Nat} (hd : decode M.2.1 pc = .ok (.invokespecial idx, 3)) (hw : Cond.methodLink M.1.cls idx objectInit ∈ xtbl ∧ Cond.instanceMethod objectInit ∈ xtbl ∧ Cond.code objectInit ⟨#[0xb1]⟩ 1 none ∈ xtbl) (hd1 : 1 ≤ d) (hst : (st.map fun v => v.category).sum ≤ 8) (kk : G E l d M (pc + 3) ls st cnt h mr sr Q) : G E l d M pc ls (.ref a :: st) cnt h mr sr Q := by
  intro p e s m args below meth c R Fin cF ms X H locs cells slots lsA r
  have hR := X.2.2.2.2.2.2.1
  refine W.objInit X.1 X.2.1 X.2.2.2.1 (X.2.2.2.2.2.1 _ hw.1) (X.2.2.2.2.2.1 _ hw.2.1) (X.2.2.2.2.2.1 _ hw.2.2) rfl (r.2.2.2.2.1.1.trans X.2.2.1.symm) rfl hd (by omega) ?_ (kk p e s m args below meth c R Fin cF ms X H locs cells slots lsA r)
  have h2 := xv_cats E st
  show 2 * 0 + ((st.map (xv E)).map fun v => v.category).sum + 12 ≤ R.locals
  omega
/-! calls -/
/-- what is known of a method: its code is in the tables, its class is ready, its parameters' number -/
def XMf (M' : XM) (n : Nat) : Prop := Cond.initialized M'.1.cls ∈ xtbl ∧ Cond.code M'.1 M'.2.1 M'.2.2.1 M'.2.2.2 ∈ xtbl ∧ (M'.1.cls ≠ "java/lang/invoke/MethodHandle" ∧ M'.1.cls ≠ "java/lang/invoke/VarHandle" ∧ (parseMethodDescriptor M'.1.desc).map (fun d => d.parameters.length) = some n) ∧ M'.2.2.1 ≤ 41
theorem XI.blind {avs : List Value} {E : XE} {cnt : Nat} {h : XH} : FrameBlind (va_Pc (avs.map (xv E)) (XI E cnt h)) := fun a U g mk q => ⟨q.1, q.2.1, q.2.2.1, q.2.2.2.1, q.2.2.2.2.same rfl⟩
theorem x_good {M M' : XM} {n : Nat} (hm : XMf M' n) : GoodIn xtbl (xws M') := by
  intro w hw
  rcases List.mem_cons.mp hw with rfl | hw
  · exact ⟨hm.2.1, good_of_word (List.mem_filter.mp hm.2.1).2⟩
  · exact ⟨hw, good_of_word (List.mem_filter.mp hw).2⟩
/-- behind a call -/
theorem x_run {p : Program} {e : Env} {s : State} {m : MethodId} {args : Array Value} {below : List Frame} {meth : Method} {c : Code} {R : Room} {Fin : State → Prop} {cF ms : Nat} {H : Heap} {locs : List Loc} {cells slots : Nat} {lsA : Array Slot} {mc' ms' : Nat} {a : Array Value} {st0 : List Value} {Q' : Option Value → XH → Prop}
    (X : XC E l d M Q p e s m args below meth c R Fin cF ms) (r : XR E M s cF ms (mr + mc') (sr + ms') cnt h ls H locs cells slots lsA) (hrun : va_Run p l e R s m args below meth c H locs cells slots mc' ms' (F0 m pc lsA st0) (st.map (xv E)) (XQ E (cnt + mc') Q' a) (xA E))
    (kk : ∀ (v : Option Value) (h' : XH), Q' v h' → G E l d M (pc + 3) ls (v.toList ++ st) (cnt + mc') h' mr sr Q) : W p l e R s m args below meth c H locs cells slots Fin (F0 m pc lsA st0) := by
  intro T hT XS
  obtain ⟨v, st₀, t, T', L, h0, X', hL, e1, e2, ⟨⟨v', h', hv, hq, hI⟩, hz, hk⟩, stp⟩ := hrun T hT XS
  cases hv
  rw [h0] at hz hk
  have hS := r.2.2.2.1
  have r1 := r.1
  have r6 := r.2.2.2.2.2.1
  have r7 := r.2.2.2.2.2.2
  have k2 := kk v' h' hq p e s m args below meth c R Fin cF ms X T'.heap (locs ++ L) (cells + mc') (slots + ms') lsA ⟨by omega, hI.2.1, by rw [e1]; exact hI.2.2.1, ⟨Nat.le_trans hS.1 (by rw [e1]; exact hz), fun q h1 h2 => by rw [e1, hk q (Nat.lt_of_lt_of_le h1 hS.1) h2]; exact hS.2.1 q h1 h2, fun q hq2 => by
      rcases List.mem_append.mp hq2 with h9 | h9
      · exact hS.2.2 q h9
      · exact hL q h9⟩, r.2.2.2.2.1, by omega, by omega⟩
  have e9 : (v'.map (xv E)).toList ++ st.map (xv E) = (v'.toList ++ st).map (xv E) := by cases v' <;> rfl
  rw [← e9] at k2
  obtain ⟨t2, a1, b1⟩ := k2 T' rfl X'
  exact ⟨t2, stp t2 a1, b1⟩
theorem x_pre {p : Program} {e : Env} {s : State} {m : MethodId} {args : Array Value} {below : List Frame} {meth : Method} {c : Code} {R : Room} {Fin : State → Prop} {cF ms : Nat} {H : Heap} {locs : List Loc} {cells slots : Nat} {lsA : Array Slot} (X : XC E l d M Q p e s m args below meth c R Fin cF ms) (r : XR E M s cF ms mr sr cnt h ls H locs cells slots lsA) (hz : H.size ≤ s.heap.size + cells) : ∀ U : State, U.heap = H → s.WarmedH U.vm → XI E cnt h U := by
  intro U hU hW
  have hb := X.2.2.2.2.2.2.2.1
  refine ⟨by rw [hU]; exact r.size hb hz, r.2.1, by rw [hU]; exact r.2.2.1, ?_⟩
  rw [hU]
  exact XK.step X.2.2.2.2.2.2.2.2.1 r.2.2.2.1 hb hW

theorem g_callV0 {M' : XM} {idx b ci d' mc' ms' : Nat} {Q' : Option Value → XH → Prop} (hd : decode M.2.1 pc = .ok (.invokevirtual idx, 3)) (hl : Cond.methodLink M.1.cls idx M'.1 ∈ xtbl) (hv : Cond.instanceMethod M'.1 ∈ xtbl ∧ Cond.selects M'.1.cls M'.1 M'.1 ∈ xtbl) (hb : b < cnt) (hs : xsh.getD b (9, 0) = (0, ci)) (hcn : (vwCl[ci]?).map (fun q => q.1) = some M'.1.cls) (hm : XMf M' 0) (hst : (st.map fun v => v.category).sum ≤ 8) (hdd : d' + 1 ≤ d) (hM : MC E l d' M' (.ref b :: []) cnt h mc' ms' Q') (kk : ∀ (v : Option Value) (h' : XH), Q' v h' → G E l d M (pc + 3) ls (v.toList ++ st) (cnt + mc') h' mr sr Q) : G E l d M pc ls (.ref b :: st) cnt h (mr + mc') (sr + ms') Q := by
  intro p e s m args below meth c R Fin cF ms X H locs cells slots lsA r
  refine W.size (fun hz => ?_)
  have hR := X.2.2.2.2.2.2.1
  have hm4 := hm.2.2.2
  have e1 : xa E b = E.1 + b := xa_lt (by have := r.2.1; omega)
  refine x_run (a := (Value.ref (xa E b) :: []).toArray) X r (va_runV (C := M'.1.cls) (ws := xws M') (rm := xroom d' mc' ms') (bytes := M'.2.1) (maxL := M'.2.2.1) (ret := M'.2.2.2) (n := 0) (b := xa E b) (As := []) ⟨X.1, X.2.1, X.2.2.1, X.2.2.2.1, X.2.2.2.2.2.1⟩ hM ⟨callB_of 0 X.2.2.2.2.2.1 (x_good (M := M) hm) rfl rfl rfl (X.2.2.2.2.2.1 _ hm.1) (X.2.2.2.2.2.1 _ hl) hm.2.2.1 ⟨by show d' + 1 ≤ R.frames; omega, by show 8 + (M'.2.2.1 + 11) + 60 * d' ≤ R.locals; omega⟩, X.2.2.2.2.2.1 _ hv.1, X.2.2.2.2.2.1 _ hv.2⟩ ⟨XI.blind (avs := .ref b :: []), by rw [e1]; exact x_recv X.2.2.2.2.2.2.2.2.1 r.2.2.1 hb hs hcn, fun U hU hW => ⟨rfl, x_pre X r hz U hU hW⟩⟩ rfl rfl r.2.2.2.2.1.1 rfl (by rw [xv_cats]; show 2 * 0 + _ ≤ 8; omega) hd ⟨by have := r.1; have := r.2.2.2.2.2.1; omega, by have := r.2.2.2.2.2.2; omega⟩) kk
theorem g_callI0 {M' : XM} {idx b d' mc' ms' : Nat} {Q' : Option Value → XH → Prop} (hd : decode M.2.1 pc = .ok (.invokespecial idx, 3)) (hl : Cond.methodLink M.1.cls idx M'.1 ∈ xtbl) (hv : Cond.instanceMethod M'.1 ∈ xtbl) (hret : M'.2.2.2 = none) (hname : M'.1.name = "<init>") (hm : XMf M' 0) (hst : (st.map fun v => v.category).sum ≤ 8) (hdd : d' + 1 ≤ d) (hM : MC E l d' M' (.ref b :: []) cnt h mc' ms' Q') (kk : ∀ (v : Option Value) (h' : XH), Q' v h' → G E l d M (pc + 3) ls (v.toList ++ st) (cnt + mc') h' mr sr Q) : G E l d M pc ls (.ref b :: st) cnt h (mr + mc') (sr + ms') Q := by
  intro p e s m args below meth c R Fin cF ms X H locs cells slots lsA r
  refine W.size (fun hz => ?_)
  have hR := X.2.2.2.2.2.2.1
  have hm4 := hm.2.2.2
  refine x_run (a := (Value.ref (xa E b) :: []).toArray) X r (va_runI (ws := xws M') (rm := xroom d' mc' ms') (bytes := M'.2.1) (maxL := M'.2.2.1) (n := 0) (b := xa E b) (As := []) ⟨X.1, X.2.1, X.2.2.1, X.2.2.2.1, X.2.2.2.2.2.1⟩ hM ⟨callB_of 0 X.2.2.2.2.2.1 (x_good (M := M) hm) (by unfold xws; rw [hret]) rfl rfl (X.2.2.2.2.2.1 _ hm.1) (X.2.2.2.2.2.1 _ hl) hm.2.2.1 ⟨by show d' + 1 ≤ R.frames; omega, by show 8 + (M'.2.2.1 + 11) + 60 * d' ≤ R.locals; omega⟩, hname, X.2.2.2.2.2.1 _ hv⟩ ⟨XI.blind (avs := .ref b :: []), fun U hU hW => ⟨rfl, x_pre X r hz U hU hW⟩⟩ rfl rfl r.2.2.2.2.1.1 rfl (by rw [xv_cats]; show 2 * 0 + _ ≤ 8; omega) hd ⟨by have := r.1; have := r.2.2.2.2.2.1; omega, by have := r.2.2.2.2.2.2; omega⟩) kk
theorem g_callIN0 {M' : XM} {idx b d' mc' ms' : Nat} {host : String} {Q' : Option Value → XH → Prop} (hd : decode M.2.1 pc = .ok (.invokespecial idx, 3)) (hl : (M.1.cls, idx, M'.1, host) ∈ xnest) (hv : Cond.instanceMethod M'.1 ∈ xtbl) (hret : M'.2.2.2 = none) (hname : M'.1.name = "<init>") (hm : XMf M' 0) (hst : (st.map fun v => v.category).sum ≤ 8) (hdd : d' + 1 ≤ d) (hM : MC E l d' M' (.ref b :: []) cnt h mc' ms' Q') (kk : ∀ (v : Option Value) (h' : XH), Q' v h' → G E l d M (pc + 3) ls (v.toList ++ st) (cnt + mc') h' mr sr Q) : G E l d M pc ls (.ref b :: st) cnt h (mr + mc') (sr + ms') Q := by
  intro p e s m args below meth c R Fin cF ms X H locs cells slots lsA r
  refine W.size (fun hz => ?_)
  have hR := X.2.2.2.2.2.2.1
  have hm4 := hm.2.2.2
  refine x_run (a := (Value.ref (xa E b) :: []).toArray) X r (va_runIN (host := host) (ws := xws M') (rm := xroom d' mc' ms') (bytes := M'.2.1) (maxL := M'.2.2.1) (n := 0) (b := xa E b) (As := []) ⟨X.1, X.2.1, X.2.2.1, X.2.2.2.1, X.2.2.2.2.2.1⟩ hM ⟨va_cnB 0 X.2.2.2.2.2.1 (x_good (M := M) hm) (by unfold xws; rw [hret]) rfl rfl (X.2.2.2.2.2.2.2.2.1.2.1 _ hl) (X.2.2.2.2.2.1 _ hm.1) hm.2.2.1 ⟨by show d' + 1 ≤ R.frames; omega, by show 8 + (M'.2.2.1 + 11) + 60 * d' ≤ R.locals; omega⟩, hname, X.2.2.2.2.2.1 _ hv⟩ ⟨XI.blind (avs := .ref b :: []), fun U hU hW => ⟨rfl, x_pre X r hz U hU hW⟩⟩ rfl rfl r.2.2.2.2.1.1 rfl (by rw [xv_cats]; show 2 * 0 + _ ≤ 8; omega) hd ⟨by have := r.1; have := r.2.2.2.2.2.1; omega, by have := r.2.2.2.2.2.2; omega⟩) kk
theorem g_callV1 {M' : XM} {idx b ci d' mc' ms' : Nat} {x0 : Value} {Q' : Option Value → XH → Prop} (hd : decode M.2.1 pc = .ok (.invokevirtual idx, 3)) (hl : Cond.methodLink M.1.cls idx M'.1 ∈ xtbl) (hv : Cond.instanceMethod M'.1 ∈ xtbl ∧ Cond.selects M'.1.cls M'.1 M'.1 ∈ xtbl) (hb : b < cnt) (hs : xsh.getD b (9, 0) = (0, ci)) (hcn : (vwCl[ci]?).map (fun q => q.1) = some M'.1.cls) (hm : XMf M' 1) (hst : (st.map fun v => v.category).sum ≤ 8) (hdd : d' + 1 ≤ d) (hM : MC E l d' M' (.ref b :: [x0]) cnt h mc' ms' Q') (kk : ∀ (v : Option Value) (h' : XH), Q' v h' → G E l d M (pc + 3) ls (v.toList ++ st) (cnt + mc') h' mr sr Q) : G E l d M pc ls (x0 :: .ref b :: st) cnt h (mr + mc') (sr + ms') Q := by
  intro p e s m args below meth c R Fin cF ms X H locs cells slots lsA r
  refine W.size (fun hz => ?_)
  have hR := X.2.2.2.2.2.2.1
  have hm4 := hm.2.2.2
  have e1 : xa E b = E.1 + b := xa_lt (by have := r.2.1; omega)
  refine x_run (a := (Value.ref (xa E b) :: [xv E x0]).toArray) X r (va_runV (C := M'.1.cls) (ws := xws M') (rm := xroom d' mc' ms') (bytes := M'.2.1) (maxL := M'.2.2.1) (ret := M'.2.2.2) (n := 1) (b := xa E b) (As := [xv E x0]) ⟨X.1, X.2.1, X.2.2.1, X.2.2.2.1, X.2.2.2.2.2.1⟩ hM ⟨callB_of 1 X.2.2.2.2.2.1 (x_good (M := M) hm) rfl rfl rfl (X.2.2.2.2.2.1 _ hm.1) (X.2.2.2.2.2.1 _ hl) hm.2.2.1 ⟨by show d' + 1 ≤ R.frames; omega, by show 8 + (M'.2.2.1 + 11) + 60 * d' ≤ R.locals; omega⟩, X.2.2.2.2.2.1 _ hv.1, X.2.2.2.2.2.1 _ hv.2⟩ ⟨XI.blind (avs := .ref b :: [x0]), by rw [e1]; exact x_recv X.2.2.2.2.2.2.2.2.1 r.2.2.1 hb hs hcn, fun U hU hW => ⟨rfl, x_pre X r hz U hU hW⟩⟩ rfl rfl r.2.2.2.2.1.1 rfl (by rw [xv_cats]; show 2 * 0 + _ ≤ 8; omega) hd ⟨by have := r.1; have := r.2.2.2.2.2.1; omega, by have := r.2.2.2.2.2.2; omega⟩) kk
theorem g_callK1 {M' : XM} {idx b d' mc' ms' : Nat} {x0 : Value} {Q' : Option Value → XH → Prop} (hd : decode M.2.1 pc = .ok (.invokevirtual idx, 3)) (hl : Cond.methodLink M.1.cls idx M'.1 ∈ xtbl) (hv : Cond.instanceMethod M'.1 ∈ xtbl ∧ Cond.selects M'.1.cls M'.1 M'.1 ∈ xtbl) (hb : b < 5) (hcn : M'.1.cls = "ThumbSea$Kind") (hm : XMf M' 1) (hst : (st.map fun v => v.category).sum ≤ 8) (hdd : d' + 1 ≤ d) (hM : MC E l d' M' (.ref (1000 + b) :: [x0]) cnt h mc' ms' Q') (kk : ∀ (v : Option Value) (h' : XH), Q' v h' → G E l d M (pc + 3) ls (v.toList ++ st) (cnt + mc') h' mr sr Q) : G E l d M pc ls (x0 :: .ref (1000 + b) :: st) cnt h (mr + mc') (sr + ms') Q := by
  intro p e s m args below meth c R Fin cF ms X H locs cells slots lsA r
  refine W.size (fun hz => ?_)
  have hR := X.2.2.2.2.2.2.1
  have hm4 := hm.2.2.2
  refine x_run (a := (Value.ref (xa E (1000 + b)) :: [xv E x0]).toArray) X r (va_runV (C := M'.1.cls) (ws := xws M') (rm := xroom d' mc' ms') (bytes := M'.2.1) (maxL := M'.2.2.1) (ret := M'.2.2.2) (n := 1) (b := xa E (1000 + b)) (As := [xv E x0]) ⟨X.1, X.2.1, X.2.2.1, X.2.2.2.1, X.2.2.2.2.2.1⟩ hM ⟨callB_of 1 X.2.2.2.2.2.1 (x_good (M := M) hm) rfl rfl rfl (X.2.2.2.2.2.1 _ hm.1) (X.2.2.2.2.2.1 _ hl) hm.2.2.1 ⟨by show d' + 1 ≤ R.frames; omega, by show 8 + (M'.2.2.1 + 11) + 60 * d' ≤ R.locals; omega⟩, X.2.2.2.2.2.1 _ hv.1, X.2.2.2.2.2.1 _ hv.2⟩ ⟨XI.blind (avs := .ref (1000 + b) :: [x0]), by rw [xa_k hb, hcn]; exact va_recvE X.2.2.2.2.2.2.2.2.1.2.2.2.1 hb r.2.2.2.1, fun U hU hW => ⟨rfl, x_pre X r hz U hU hW⟩⟩ rfl rfl r.2.2.2.2.1.1 rfl (by rw [xv_cats]; show 2 * 0 + _ ≤ 8; omega) hd ⟨by have := r.1; have := r.2.2.2.2.2.1; omega, by have := r.2.2.2.2.2.2; omega⟩) kk
theorem g_callS1 {M' : XM} {idx d' mc' ms' : Nat} {x0 : Value} {Q' : Option Value → XH → Prop} (hd : decode M.2.1 pc = .ok (.invokestatic idx, 3)) (hl : Cond.methodLink M.1.cls idx M'.1 ∈ xtbl) (hv : Cond.static M'.1 ∈ xtbl) (hm : XMf M' 1) (hst : (st.map fun v => v.category).sum ≤ 8) (hdd : d' + 1 ≤ d) (hM : MC E l d' M' [x0] cnt h mc' ms' Q') (kk : ∀ (v : Option Value) (h' : XH), Q' v h' → G E l d M (pc + 3) ls (v.toList ++ st) (cnt + mc') h' mr sr Q) : G E l d M pc ls (x0 :: st) cnt h (mr + mc') (sr + ms') Q := by
  intro p e s m args below meth c R Fin cF ms X H locs cells slots lsA r
  refine W.size (fun hz => ?_)
  have hR := X.2.2.2.2.2.2.1
  have hm4 := hm.2.2.2
  refine x_run (a := ([xv E x0] : List Value).toArray) X r (va_runS (ws := xws M') (rm := xroom d' mc' ms') (bytes := M'.2.1) (maxL := M'.2.2.1) (ret := M'.2.2.2) (n := 1) (As := [xv E x0]) ⟨X.1, X.2.1, X.2.2.1, X.2.2.2.1, X.2.2.2.2.2.1⟩ hM ⟨callB_of 1 X.2.2.2.2.2.1 (x_good (M := M) hm) rfl rfl rfl (X.2.2.2.2.2.1 _ hm.1) (X.2.2.2.2.2.1 _ hl) hm.2.2.1 ⟨by show d' + 1 ≤ R.frames; omega, by show 8 + (M'.2.2.1 + 11) + 60 * d' ≤ R.locals; omega⟩, X.2.2.2.2.2.1 _ hv⟩ ⟨XI.blind (avs := [x0]), fun U hU hW => ⟨rfl, x_pre X r hz U hU hW⟩⟩ rfl rfl r.2.2.2.2.1.1 rfl (by rw [xv_cats]; show 2 * 0 + _ ≤ 8; omega) hd ⟨by have := r.1; have := r.2.2.2.2.2.1; omega, by have := r.2.2.2.2.2.2; omega⟩) kk
theorem g_callI1 {M' : XM} {idx b d' mc' ms' : Nat} {x0 : Value} {Q' : Option Value → XH → Prop} (hd : decode M.2.1 pc = .ok (.invokespecial idx, 3)) (hl : Cond.methodLink M.1.cls idx M'.1 ∈ xtbl) (hv : Cond.instanceMethod M'.1 ∈ xtbl) (hret : M'.2.2.2 = none) (hname : M'.1.name = "<init>") (hm : XMf M' 1) (hst : (st.map fun v => v.category).sum ≤ 8) (hdd : d' + 1 ≤ d) (hM : MC E l d' M' (.ref b :: [x0]) cnt h mc' ms' Q') (kk : ∀ (v : Option Value) (h' : XH), Q' v h' → G E l d M (pc + 3) ls (v.toList ++ st) (cnt + mc') h' mr sr Q) : G E l d M pc ls (x0 :: .ref b :: st) cnt h (mr + mc') (sr + ms') Q := by
  intro p e s m args below meth c R Fin cF ms X H locs cells slots lsA r
  refine W.size (fun hz => ?_)
  have hR := X.2.2.2.2.2.2.1
  have hm4 := hm.2.2.2
  refine x_run (a := (Value.ref (xa E b) :: [xv E x0]).toArray) X r (va_runI (ws := xws M') (rm := xroom d' mc' ms') (bytes := M'.2.1) (maxL := M'.2.2.1) (n := 1) (b := xa E b) (As := [xv E x0]) ⟨X.1, X.2.1, X.2.2.1, X.2.2.2.1, X.2.2.2.2.2.1⟩ hM ⟨callB_of 1 X.2.2.2.2.2.1 (x_good (M := M) hm) (by unfold xws; rw [hret]) rfl rfl (X.2.2.2.2.2.1 _ hm.1) (X.2.2.2.2.2.1 _ hl) hm.2.2.1 ⟨by show d' + 1 ≤ R.frames; omega, by show 8 + (M'.2.2.1 + 11) + 60 * d' ≤ R.locals; omega⟩, hname, X.2.2.2.2.2.1 _ hv⟩ ⟨XI.blind (avs := .ref b :: [x0]), fun U hU hW => ⟨rfl, x_pre X r hz U hU hW⟩⟩ rfl rfl r.2.2.2.2.1.1 rfl (by rw [xv_cats]; show 2 * 0 + _ ≤ 8; omega) hd ⟨by have := r.1; have := r.2.2.2.2.2.1; omega, by have := r.2.2.2.2.2.2; omega⟩) kk
theorem g_callV2 {M' : XM} {idx b ci d' mc' ms' : Nat} {x0 : Value} {x1 : Value} {Q' : Option Value → XH → Prop} (hd : decode M.2.1 pc = .ok (.invokevirtual idx, 3)) (hl : Cond.methodLink M.1.cls idx M'.1 ∈ xtbl) (hv : Cond.instanceMethod M'.1 ∈ xtbl ∧ Cond.selects M'.1.cls M'.1 M'.1 ∈ xtbl) (hb : b < cnt) (hs : xsh.getD b (9, 0) = (0, ci)) (hcn : (vwCl[ci]?).map (fun q => q.1) = some M'.1.cls) (hm : XMf M' 2) (hst : (st.map fun v => v.category).sum ≤ 8) (hdd : d' + 1 ≤ d) (hM : MC E l d' M' (.ref b :: [x0, x1]) cnt h mc' ms' Q') (kk : ∀ (v : Option Value) (h' : XH), Q' v h' → G E l d M (pc + 3) ls (v.toList ++ st) (cnt + mc') h' mr sr Q) : G E l d M pc ls (x1 :: x0 :: .ref b :: st) cnt h (mr + mc') (sr + ms') Q := by
  intro p e s m args below meth c R Fin cF ms X H locs cells slots lsA r
  refine W.size (fun hz => ?_)
  have hR := X.2.2.2.2.2.2.1
  have hm4 := hm.2.2.2
  have e1 : xa E b = E.1 + b := xa_lt (by have := r.2.1; omega)
  refine x_run (a := (Value.ref (xa E b) :: [xv E x0, xv E x1]).toArray) X r (va_runV (C := M'.1.cls) (ws := xws M') (rm := xroom d' mc' ms') (bytes := M'.2.1) (maxL := M'.2.2.1) (ret := M'.2.2.2) (n := 2) (b := xa E b) (As := [xv E x0, xv E x1]) ⟨X.1, X.2.1, X.2.2.1, X.2.2.2.1, X.2.2.2.2.2.1⟩ hM ⟨callB_of 2 X.2.2.2.2.2.1 (x_good (M := M) hm) rfl rfl rfl (X.2.2.2.2.2.1 _ hm.1) (X.2.2.2.2.2.1 _ hl) hm.2.2.1 ⟨by show d' + 1 ≤ R.frames; omega, by show 8 + (M'.2.2.1 + 11) + 60 * d' ≤ R.locals; omega⟩, X.2.2.2.2.2.1 _ hv.1, X.2.2.2.2.2.1 _ hv.2⟩ ⟨XI.blind (avs := .ref b :: [x0, x1]), by rw [e1]; exact x_recv X.2.2.2.2.2.2.2.2.1 r.2.2.1 hb hs hcn, fun U hU hW => ⟨rfl, x_pre X r hz U hU hW⟩⟩ rfl rfl r.2.2.2.2.1.1 rfl (by rw [xv_cats]; show 2 * 0 + _ ≤ 8; omega) hd ⟨by have := r.1; have := r.2.2.2.2.2.1; omega, by have := r.2.2.2.2.2.2; omega⟩) kk
theorem g_callS2 {M' : XM} {idx d' mc' ms' : Nat} {x0 : Value} {x1 : Value} {Q' : Option Value → XH → Prop} (hd : decode M.2.1 pc = .ok (.invokestatic idx, 3)) (hl : Cond.methodLink M.1.cls idx M'.1 ∈ xtbl) (hv : Cond.static M'.1 ∈ xtbl) (hm : XMf M' 2) (hst : (st.map fun v => v.category).sum ≤ 8) (hdd : d' + 1 ≤ d) (hM : MC E l d' M' [x0, x1] cnt h mc' ms' Q') (kk : ∀ (v : Option Value) (h' : XH), Q' v h' → G E l d M (pc + 3) ls (v.toList ++ st) (cnt + mc') h' mr sr Q) : G E l d M pc ls (x1 :: x0 :: st) cnt h (mr + mc') (sr + ms') Q := by
  intro p e s m args below meth c R Fin cF ms X H locs cells slots lsA r
  refine W.size (fun hz => ?_)
  have hR := X.2.2.2.2.2.2.1
  have hm4 := hm.2.2.2
  refine x_run (a := ([xv E x0, xv E x1] : List Value).toArray) X r (va_runS (ws := xws M') (rm := xroom d' mc' ms') (bytes := M'.2.1) (maxL := M'.2.2.1) (ret := M'.2.2.2) (n := 2) (As := [xv E x0, xv E x1]) ⟨X.1, X.2.1, X.2.2.1, X.2.2.2.1, X.2.2.2.2.2.1⟩ hM ⟨callB_of 2 X.2.2.2.2.2.1 (x_good (M := M) hm) rfl rfl rfl (X.2.2.2.2.2.1 _ hm.1) (X.2.2.2.2.2.1 _ hl) hm.2.2.1 ⟨by show d' + 1 ≤ R.frames; omega, by show 8 + (M'.2.2.1 + 11) + 60 * d' ≤ R.locals; omega⟩, X.2.2.2.2.2.1 _ hv⟩ ⟨XI.blind (avs := [x0, x1]), fun U hU hW => ⟨rfl, x_pre X r hz U hU hW⟩⟩ rfl rfl r.2.2.2.2.1.1 rfl (by rw [xv_cats]; show 2 * 0 + _ ≤ 8; omega) hd ⟨by have := r.1; have := r.2.2.2.2.2.1; omega, by have := r.2.2.2.2.2.2; omega⟩) kk
theorem g_callV3 {M' : XM} {idx b ci d' mc' ms' : Nat} {x0 : Value} {x1 : Value} {x2 : Value} {Q' : Option Value → XH → Prop} (hd : decode M.2.1 pc = .ok (.invokevirtual idx, 3)) (hl : Cond.methodLink M.1.cls idx M'.1 ∈ xtbl) (hv : Cond.instanceMethod M'.1 ∈ xtbl ∧ Cond.selects M'.1.cls M'.1 M'.1 ∈ xtbl) (hb : b < cnt) (hs : xsh.getD b (9, 0) = (0, ci)) (hcn : (vwCl[ci]?).map (fun q => q.1) = some M'.1.cls) (hm : XMf M' 3) (hst : (st.map fun v => v.category).sum ≤ 8) (hdd : d' + 1 ≤ d) (hM : MC E l d' M' (.ref b :: [x0, x1, x2]) cnt h mc' ms' Q') (kk : ∀ (v : Option Value) (h' : XH), Q' v h' → G E l d M (pc + 3) ls (v.toList ++ st) (cnt + mc') h' mr sr Q) : G E l d M pc ls (x2 :: x1 :: x0 :: .ref b :: st) cnt h (mr + mc') (sr + ms') Q := by
  intro p e s m args below meth c R Fin cF ms X H locs cells slots lsA r
  refine W.size (fun hz => ?_)
  have hR := X.2.2.2.2.2.2.1
  have hm4 := hm.2.2.2
  have e1 : xa E b = E.1 + b := xa_lt (by have := r.2.1; omega)
  refine x_run (a := (Value.ref (xa E b) :: [xv E x0, xv E x1, xv E x2]).toArray) X r (va_runV (C := M'.1.cls) (ws := xws M') (rm := xroom d' mc' ms') (bytes := M'.2.1) (maxL := M'.2.2.1) (ret := M'.2.2.2) (n := 3) (b := xa E b) (As := [xv E x0, xv E x1, xv E x2]) ⟨X.1, X.2.1, X.2.2.1, X.2.2.2.1, X.2.2.2.2.2.1⟩ hM ⟨callB_of 3 X.2.2.2.2.2.1 (x_good (M := M) hm) rfl rfl rfl (X.2.2.2.2.2.1 _ hm.1) (X.2.2.2.2.2.1 _ hl) hm.2.2.1 ⟨by show d' + 1 ≤ R.frames; omega, by show 8 + (M'.2.2.1 + 11) + 60 * d' ≤ R.locals; omega⟩, X.2.2.2.2.2.1 _ hv.1, X.2.2.2.2.2.1 _ hv.2⟩ ⟨XI.blind (avs := .ref b :: [x0, x1, x2]), by rw [e1]; exact x_recv X.2.2.2.2.2.2.2.2.1 r.2.2.1 hb hs hcn, fun U hU hW => ⟨rfl, x_pre X r hz U hU hW⟩⟩ rfl rfl r.2.2.2.2.1.1 rfl (by rw [xv_cats]; show 2 * 0 + _ ≤ 8; omega) hd ⟨by have := r.1; have := r.2.2.2.2.2.1; omega, by have := r.2.2.2.2.2.2; omega⟩) kk
theorem g_callS3 {M' : XM} {idx d' mc' ms' : Nat} {x0 : Value} {x1 : Value} {x2 : Value} {Q' : Option Value → XH → Prop} (hd : decode M.2.1 pc = .ok (.invokestatic idx, 3)) (hl : Cond.methodLink M.1.cls idx M'.1 ∈ xtbl) (hv : Cond.static M'.1 ∈ xtbl) (hm : XMf M' 3) (hst : (st.map fun v => v.category).sum ≤ 8) (hdd : d' + 1 ≤ d) (hM : MC E l d' M' [x0, x1, x2] cnt h mc' ms' Q') (kk : ∀ (v : Option Value) (h' : XH), Q' v h' → G E l d M (pc + 3) ls (v.toList ++ st) (cnt + mc') h' mr sr Q) : G E l d M pc ls (x2 :: x1 :: x0 :: st) cnt h (mr + mc') (sr + ms') Q := by
  intro p e s m args below meth c R Fin cF ms X H locs cells slots lsA r
  refine W.size (fun hz => ?_)
  have hR := X.2.2.2.2.2.2.1
  have hm4 := hm.2.2.2
  refine x_run (a := ([xv E x0, xv E x1, xv E x2] : List Value).toArray) X r (va_runS (ws := xws M') (rm := xroom d' mc' ms') (bytes := M'.2.1) (maxL := M'.2.2.1) (ret := M'.2.2.2) (n := 3) (As := [xv E x0, xv E x1, xv E x2]) ⟨X.1, X.2.1, X.2.2.1, X.2.2.2.1, X.2.2.2.2.2.1⟩ hM ⟨callB_of 3 X.2.2.2.2.2.1 (x_good (M := M) hm) rfl rfl rfl (X.2.2.2.2.2.1 _ hm.1) (X.2.2.2.2.2.1 _ hl) hm.2.2.1 ⟨by show d' + 1 ≤ R.frames; omega, by show 8 + (M'.2.2.1 + 11) + 60 * d' ≤ R.locals; omega⟩, X.2.2.2.2.2.1 _ hv⟩ ⟨XI.blind (avs := [x0, x1, x2]), fun U hU hW => ⟨rfl, x_pre X r hz U hU hW⟩⟩ rfl rfl r.2.2.2.2.1.1 rfl (by rw [xv_cats]; show 2 * 0 + _ ≤ 8; omega) hd ⟨by have := r.1; have := r.2.2.2.2.2.1; omega, by have := r.2.2.2.2.2.2; omega⟩) kk
theorem g_callSN3 {M' : XM} {idx d' mc' ms' : Nat} {host : String} {x0 : Value} {x1 : Value} {x2 : Value} {Q' : Option Value → XH → Prop} (hd : decode M.2.1 pc = .ok (.invokestatic idx, 3)) (hl : (M.1.cls, idx, M'.1, host) ∈ xnest) (hv : Cond.static M'.1 ∈ xtbl) (hm : XMf M' 3) (hst : (st.map fun v => v.category).sum ≤ 8) (hdd : d' + 1 ≤ d) (hM : MC E l d' M' [x0, x1, x2] cnt h mc' ms' Q') (kk : ∀ (v : Option Value) (h' : XH), Q' v h' → G E l d M (pc + 3) ls (v.toList ++ st) (cnt + mc') h' mr sr Q) : G E l d M pc ls (x2 :: x1 :: x0 :: st) cnt h (mr + mc') (sr + ms') Q := by
  intro p e s m args below meth c R Fin cF ms X H locs cells slots lsA r
  refine W.size (fun hz => ?_)
  have hR := X.2.2.2.2.2.2.1
  have hm4 := hm.2.2.2
  refine x_run (a := ([xv E x0, xv E x1, xv E x2] : List Value).toArray) X r (va_runSN (host := host) (ws := xws M') (rm := xroom d' mc' ms') (bytes := M'.2.1) (maxL := M'.2.2.1) (ret := M'.2.2.2) (n := 3) (As := [xv E x0, xv E x1, xv E x2]) ⟨X.1, X.2.1, X.2.2.1, X.2.2.2.1, X.2.2.2.2.2.1⟩ hM ⟨va_cnB 3 X.2.2.2.2.2.1 (x_good (M := M) hm) rfl rfl rfl (X.2.2.2.2.2.2.2.2.1.2.1 _ hl) (X.2.2.2.2.2.1 _ hm.1) hm.2.2.1 ⟨by show d' + 1 ≤ R.frames; omega, by show 8 + (M'.2.2.1 + 11) + 60 * d' ≤ R.locals; omega⟩, X.2.2.2.2.2.1 _ hv, trivial⟩ ⟨XI.blind (avs := [x0, x1, x2]), fun U hU hW => ⟨rfl, x_pre X r hz U hU hW⟩⟩ rfl rfl r.2.2.2.2.1.1 rfl (by rw [xv_cats]; show 2 * 0 + _ ≤ 8; omega) hd ⟨by have := r.1; have := r.2.2.2.2.2.1; omega, by have := r.2.2.2.2.2.2; omega⟩) kk
theorem g_callV4 {M' : XM} {idx b ci d' mc' ms' : Nat} {x0 : Value} {x1 : Value} {x2 : Value} {x3 : Value} {Q' : Option Value → XH → Prop} (hd : decode M.2.1 pc = .ok (.invokevirtual idx, 3)) (hl : Cond.methodLink M.1.cls idx M'.1 ∈ xtbl) (hv : Cond.instanceMethod M'.1 ∈ xtbl ∧ Cond.selects M'.1.cls M'.1 M'.1 ∈ xtbl) (hb : b < cnt) (hs : xsh.getD b (9, 0) = (0, ci)) (hcn : (vwCl[ci]?).map (fun q => q.1) = some M'.1.cls) (hm : XMf M' 4) (hst : (st.map fun v => v.category).sum ≤ 8) (hdd : d' + 1 ≤ d) (hM : MC E l d' M' (.ref b :: [x0, x1, x2, x3]) cnt h mc' ms' Q') (kk : ∀ (v : Option Value) (h' : XH), Q' v h' → G E l d M (pc + 3) ls (v.toList ++ st) (cnt + mc') h' mr sr Q) : G E l d M pc ls (x3 :: x2 :: x1 :: x0 :: .ref b :: st) cnt h (mr + mc') (sr + ms') Q := by
  intro p e s m args below meth c R Fin cF ms X H locs cells slots lsA r
  refine W.size (fun hz => ?_)
  have hR := X.2.2.2.2.2.2.1
  have hm4 := hm.2.2.2
  have e1 : xa E b = E.1 + b := xa_lt (by have := r.2.1; omega)
  refine x_run (a := (Value.ref (xa E b) :: [xv E x0, xv E x1, xv E x2, xv E x3]).toArray) X r (va_runV (C := M'.1.cls) (ws := xws M') (rm := xroom d' mc' ms') (bytes := M'.2.1) (maxL := M'.2.2.1) (ret := M'.2.2.2) (n := 4) (b := xa E b) (As := [xv E x0, xv E x1, xv E x2, xv E x3]) ⟨X.1, X.2.1, X.2.2.1, X.2.2.2.1, X.2.2.2.2.2.1⟩ hM ⟨callB_of 4 X.2.2.2.2.2.1 (x_good (M := M) hm) rfl rfl rfl (X.2.2.2.2.2.1 _ hm.1) (X.2.2.2.2.2.1 _ hl) hm.2.2.1 ⟨by show d' + 1 ≤ R.frames; omega, by show 8 + (M'.2.2.1 + 11) + 60 * d' ≤ R.locals; omega⟩, X.2.2.2.2.2.1 _ hv.1, X.2.2.2.2.2.1 _ hv.2⟩ ⟨XI.blind (avs := .ref b :: [x0, x1, x2, x3]), by rw [e1]; exact x_recv X.2.2.2.2.2.2.2.2.1 r.2.2.1 hb hs hcn, fun U hU hW => ⟨rfl, x_pre X r hz U hU hW⟩⟩ rfl rfl r.2.2.2.2.1.1 rfl (by rw [xv_cats]; show 2 * 0 + _ ≤ 8; omega) hd ⟨by have := r.1; have := r.2.2.2.2.2.1; omega, by have := r.2.2.2.2.2.2; omega⟩) kk
end XHeap
/-- a contract out of the walk from the entry -/
theorem MC.of {E : XE} {l : Launch} {d : Nat} {M : XM} {avs : List Value} {cnt : Nat} {h : XH} {mc ms : Nat} {Q : Option Value → XH → Prop} (ls : XL) (hy : plainName M.1.cls = true) (hls : xl E 0 ls = lv_args 0 (avs.map (xv E))) (hlen : (lg_sl (avs.map (xv E))).length ≤ M.2.2.1) (g : G E l d M 0 ls [] cnt h mc ms Q) : MC E l d M avs cnt h mc ms Q := by
  refine Met.ofW (cc := M.2.1) (maxL := M.2.2.1) (ret := M.2.2.2) hy rfl ?_
  intro p e s m args below meth c s₁ B hml hv
  obtain ⟨rfl, hI⟩ := hv
  have hts := atoms_spec (ws := xws M) B.pre
  have hlocks := B.notSynchronized
  have hown : s.vm.findClass M.1.cls = some m.cls := findClass_of_methodNamed B.named
  have hl := lv_entry (avs.map (xv E)) (n := M.2.2.1) hlen
  rw [lg_entry_eq]
  generalize (lg_sl (avs.map (xv E)) ++ List.replicate (M.2.2.1 - (lg_sl (avs.map (xv E))).length) Slot.unset).toArray = lsA at hl ⊢
  rw [← hls] at hl
  refine g p e s m _ below meth c _ _ (cnt + mc) ms ⟨B.exec, B.bytes, hml, hown, (name_of_methodNamed B.named B.method).1, fun w hw => hts w (List.mem_cons_of_mem _ hw), ⟨Nat.le_refl d, Nat.le_refl (60 * d), by have h1 := hI.1; show E.1 + (cnt + mc) ≤ s.heap.size + mc; omega, Nat.le_refl ms⟩, by have h1 := hI.1; omega, hI.2.2.2, ?_⟩ s.heap [] 0 0 lsA ⟨hI.1, hI.2.1, hI.2.2.1, va_S.rf, hl, rfl, by omega⟩
  intro r h2 H locs cells slots lsB ls2 sr pc hr hq hret
  refine W.size (fun hz => ?_)
  have hb : E.1 ≤ s.heap.size := by have h1 := hI.1; omega
  have hsz := hr.size hb hz
  have hcells : cells = mc := by have h1 := hr.1; have h3 := hI.1; omega
  have hslots : slots ≤ ms := by have h1 := hr.2.2.2.2.2.2; omega
  subst hcells
  refine W.widen (k := cells) (n := ms) (Nat.le_refl _) hslots ?_
  have hend : ∀ t : State, t.heap = H → s.WarmedH t.vm → XQ E (cnt + cells) Q (avs.map (xv E)).toArray s (.returned (r.map (xv E))) t := fun t ht hW => ⟨⟨r, h2, rfl, hq, by rw [ht]; exact hsz, hr.2.1, by rw [ht]; exact hr.2.2.1, by rw [ht]; exact XK.step hI.2.2.2 hr.2.2.2.1 hb hW⟩, hr.2.2.2.1.F ht⟩
  have hrt := B.returns
  cases r with
  | none =>
    obtain ⟨h5, h6⟩ := hret
    exact W.vret B.exec B.bytes (hrt.trans h6) hend hr.2.2.2.1.2.2 h5 hlocks
  | some v =>
    cases v with
    | int x =>
      obtain ⟨h5, ty, h6, h7⟩ := hret
      exact W.zret B.exec B.bytes (hrt.trans h6) h7 hend hr.2.2.2.1.2.2 h5 hlocks
    | long x =>
      obtain ⟨h5, h6⟩ := hret
      exact W.lret B.exec B.bytes (hrt.trans h6) hend hr.2.2.2.1.2.2 h5 hlocks
    | ref a =>
      obtain ⟨h5, n, h6⟩ := hret
      exact W.aret B.exec B.bytes (hrt.trans h6) (Or.inl ⟨n, rfl⟩) (Or.inr ⟨xa E a, rfl⟩) hend hr.2.2.2.1.2.2 h5 hlocks
    | float x => exact hret.elim
    | double x => exact hret.elim
    | null => exact hret.elim
    | retAddr x => exact hret.elim
/-- a weaker end -/
theorem MC.weaken {E : XE} {l : Launch} {d : Nat} {M : XM} {avs : List Value} {cnt : Nat} {h : XH} {mc ms : Nat} {Q Q' : Option Value → XH → Prop} (hM : MC E l d M avs cnt h mc ms Q) (hq : ∀ r h', Q r h' → Q' r h') : MC E l d M avs cnt h mc ms Q' := by
  intro p e ha hc hk s m args below hf happ hP hT
  obtain ⟨k, o, h1, h2, h3, ⟨⟨r, h', h4, h5, h6⟩, h7⟩, h8⟩ := hM p e ha hc hk s m args below hf happ hP hT
  exact ⟨k, o, h1, h2, h3, ⟨⟨r, h', h4, hq r h' h5, h6⟩, h7⟩, h8⟩
