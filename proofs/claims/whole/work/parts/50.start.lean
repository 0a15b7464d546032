/-! ===== what is known at the law's entry ===== -/
set_option maxRecDepth 100000 in
set_option maxHeartbeats 8000000 in
theorem xk_start {s : State} {b L : Nat} {xs : Nat → Int32} (hts : ∀ w ∈ lw_tbl, w.before #[Value.ref b] s = true) (hX : va_X b L xs s s.heap) (hbl : b < s.heap.size) (hgv : (Jvm.Cond.and given_1 narrow_1).before #[Value.ref b] s = true) : ∃ E : XE, E.1 = s.heap.size ∧ E.2.2.2.2.2 = (b, L, xs) ∧ XK E s s.heap := by
  have hs := flat_of_before _ hgv
  have hxt : ∀ w ∈ xtbl, w.before #[Value.ref b] s = true := fun w hw => hts w (List.mem_filter.mp hw).1
  have hT : ∀ (i : Nat) (w : Cond), tables_1[i]? = some w → w.before #[Value.ref b] s = true := fun i w h => hts w (List.mem_append_right _ (List.mem_of_getElem? h))
  have hA : ∀ a : Nat, a < s.heap.size → ¬ (fun q => s.heap.size ≤ q) a := fun a ha q => by
    have : s.heap.size ≤ a := q
    omega
  have hini : (Cond.initialized "ThumbSea$Kind").before #[Value.ref b] s = true := hT 7 _ (by decide +kernel)
  have hlay : ∀ i, i < xnm.length → (Cond.laysStatic "ThumbSea$Kind" (xnm.getD i "") "LThumbSea$Kind;").before #[Value.ref b] s = true := fun i h => match i, h with
    | 0, _ => hT 75 _ (by decide +kernel)
    | 1, _ => hT 360 _ (by decide +kernel)
    | 2, _ => hT 462 _ (by decide +kernel)
    | 3, _ => hT 413 _ (by decide +kernel)
    | 4, _ => hT 342 _ (by decide +kernel)
    | n + 5, h => absurd h (by show ¬ n + 5 < 5; omega)
  have hex : ∀ i, i < xnm.length → (Cond.exactly (.static "ThumbSea$Kind" (xnm.getD i "") "LThumbSea$Kind;") "ThumbSea$Kind").before #[Value.ref b] s = true := fun i h => match i, h with
    | 0, _ => hs _ (by decide +kernel)
    | 1, _ => hs _ (by decide +kernel)
    | 2, _ => hs _ (by decide +kernel)
    | 3, _ => hs _ (by decide +kernel)
    | 4, _ => hs _ (by decide +kernel)
    | n + 5, h => absurd h (by show ¬ n + 5 < 5; omega)
  have hf_number : ∀ i, i < xnm.length → (Cond.eq (.field (.static "ThumbSea$Kind" (xnm.getD i "") "LThumbSea$Kind;") "ThumbSea$Kind" "number" "I") (.int (([0, 1, 2, 3, 4] : List Int32).getD i 0))).before #[Value.ref b] s = true := fun i h => match i, h with
    | 0, _ => hs _ (by decide +kernel)
    | 1, _ => hs _ (by decide +kernel)
    | 2, _ => hs _ (by decide +kernel)
    | 3, _ => hs _ (by decide +kernel)
    | 4, _ => hs _ (by decide +kernel)
    | n + 5, h => absurd h (by show ¬ n + 5 < 5; omega)
  have hf_letter : ∀ i, i < xnm.length → (Cond.eq (.field (.static "ThumbSea$Kind" (xnm.getD i "") "LThumbSea$Kind;") "ThumbSea$Kind" "letter" "I") (.int (([111, 101, 104, 115, 103] : List Int32).getD i 0))).before #[Value.ref b] s = true := fun i h => match i, h with
    | 0, _ => hs _ (by decide +kernel)
    | 1, _ => hs _ (by decide +kernel)
    | 2, _ => hs _ (by decide +kernel)
    | 3, _ => hs _ (by decide +kernel)
    | 4, _ => hs _ (by decide +kernel)
    | n + 5, h => absurd h (by show ¬ n + 5 < 5; omega)
  have hf : ∀ q ∈ xF, ∀ i, i < xnm.length → (Cond.eq (.field (.static "ThumbSea$Kind" (xnm.getD i "") "LThumbSea$Kind;") q.1 q.2.1 q.2.2.1) (.int (q.2.2.2.getD i 0))).before #[Value.ref b] s = true := by
    unfold xF
    exact List.forall_mem_cons.mpr ⟨hf_number, List.forall_mem_cons.mpr ⟨hf_letter, fun _ h => absurd h List.not_mem_nil⟩⟩
  have hne : ∀ i j, i < xnm.length → j < xnm.length → i ≠ j → (Cond.not (.eq (.static "ThumbSea$Kind" (xnm.getD i "") "LThumbSea$Kind;") (.static "ThumbSea$Kind" (xnm.getD j "") "LThumbSea$Kind;"))).before #[Value.ref b] s = true ∨ (Cond.not (.eq (.static "ThumbSea$Kind" (xnm.getD j "") "LThumbSea$Kind;") (.static "ThumbSea$Kind" (xnm.getD i "") "LThumbSea$Kind;"))).before #[Value.ref b] s = true := by
    have h5 : ∀ i, i < xnm.length → i = 0 ∨ i = 1 ∨ i = 2 ∨ i = 3 ∨ i = 4 := fun i h => by
      have : i < 5 := h
      omega
    intro i j h1 h2 h3
    rcases h5 i h1 with rfl | rfl | rfl | rfl | rfl
    · rcases h5 j h2 with rfl | rfl | rfl | rfl | rfl
      · exact absurd rfl h3
      · exact Or.inl (hs _ (by decide +kernel))
      · exact Or.inl (hs _ (by decide +kernel))
      · exact Or.inl (hs _ (by decide +kernel))
      · exact Or.inl (hs _ (by decide +kernel))
    · rcases h5 j h2 with rfl | rfl | rfl | rfl | rfl
      · exact Or.inr (hs _ (by decide +kernel))
      · exact absurd rfl h3
      · exact Or.inl (hs _ (by decide +kernel))
      · exact Or.inl (hs _ (by decide +kernel))
      · exact Or.inr (hs _ (by decide +kernel))
    · rcases h5 j h2 with rfl | rfl | rfl | rfl | rfl
      · exact Or.inr (hs _ (by decide +kernel))
      · exact Or.inr (hs _ (by decide +kernel))
      · exact absurd rfl h3
      · exact Or.inr (hs _ (by decide +kernel))
      · exact Or.inr (hs _ (by decide +kernel))
    · rcases h5 j h2 with rfl | rfl | rfl | rfl | rfl
      · exact Or.inr (hs _ (by decide +kernel))
      · exact Or.inr (hs _ (by decide +kernel))
      · exact Or.inl (hs _ (by decide +kernel))
      · exact absurd rfl h3
      · exact Or.inr (hs _ (by decide +kernel))
    · rcases h5 j h2 with rfl | rfl | rfl | rfl | rfl
      · exact Or.inr (hs _ (by decide +kernel))
      · exact Or.inl (hs _ (by decide +kernel))
      · exact Or.inl (hs _ (by decide +kernel))
      · exact Or.inl (hs _ (by decide +kernel))
      · exact absurd rfl h3
  obtain ⟨ad, hEn, had⟩ := va_Enof2 (E := "ThumbSea$Kind") (d := "LThumbSea$Kind;") (nm := xnm) (F := xF) (A := fun q => s.heap.size ≤ q) hlay hini hex hf hne hA
  have hel : ∀ j : Nat, j < 5 → (Term.elem (.static "ThumbSea$Kind" "ALL" "[LThumbSea$Kind;") (.int (Int32.ofNat j))).eval #[Value.ref b] s none [] s = some (.ref (ad j)) := fun j h => match j, h with
    | 0, _ => va_eqv (hs (.eq (.elem (.static "ThumbSea$Kind" "ALL" "[LThumbSea$Kind;") (.int 0)) (.static "ThumbSea$Kind" "ONE" "LThumbSea$Kind;")) (by decide +kernel)) (had 0 (by decide))
    | 1, _ => va_eqv (hs (.eq (.elem (.static "ThumbSea$Kind" "ALL" "[LThumbSea$Kind;") (.int 1)) (.static "ThumbSea$Kind" "EAGER" "LThumbSea$Kind;")) (by decide +kernel)) (had 1 (by decide))
    | 2, _ => va_eqv (hs (.eq (.elem (.static "ThumbSea$Kind" "ALL" "[LThumbSea$Kind;") (.int 2)) (.static "ThumbSea$Kind" "HASTY" "LThumbSea$Kind;")) (by decide +kernel)) (had 2 (by decide))
    | 3, _ => va_eqv (hs (.eq (.elem (.static "ThumbSea$Kind" "ALL" "[LThumbSea$Kind;") (.int 3)) (.static "ThumbSea$Kind" "SHY" "LThumbSea$Kind;")) (by decide +kernel)) (had 3 (by decide))
    | 4, _ => va_eqv (hs (.eq (.elem (.static "ThumbSea$Kind" "ALL" "[LThumbSea$Kind;") (.int 4)) (.static "ThumbSea$Kind" "GONE" "LThumbSea$Kind;")) (by decide +kernel)) (had 4 (by decide))
    | n + 5, h => absurd h (by omega)
  obtain ⟨t, ht, hTT⟩ := va_Tof (tm := .static "ThumbSea$Kind" "ALL" "[LThumbSea$Kind;") (ty := .object "ThumbSea$Kind") (N := 5) (f := fun j => .ref (ad j)) (A := fun q => s.heap.size ≤ q) (by decide) (hs _ (by decide +kernel)) (va_eqt (hs (.eq (.length (.static "ThumbSea$Kind" "ALL" "[LThumbSea$Kind;")) (.int 5)) (by decide +kernel))) hel hA
  have hZ : va_Z "ThumbSea$Kind" "ALL" "[LThumbSea$Kind;" (.ref t) (fun q => s.heap.size ≤ q) s s.heap := va_Zref (hT 272 _ (by decide +kernel)) hini ht hA
  obtain ⟨c0, i0, hK0⟩ := u_known (C := RX0) (T := TX0) (N := 10) hxt xin_0 (hxt _ n_X9_16.2.1)
  obtain ⟨c1, i1, hK1⟩ := u_known (C := RX3) (T := TX3) (N := 6) hxt xin_1 (hxt _ n_X9_33.2.1)
  obtain ⟨c2, i2, hK2⟩ := u_known (C := RX4) (T := TX4) (N := 2) hxt xin_2 (hxt _ n_X9_9.2.1)
  obtain ⟨c3, i3, hK3⟩ := u_known (C := RX5) (T := TX5) (N := 12) hxt xin_3 (hxt _ n_X0_9.2.1)
  obtain ⟨c4, i4, hK4⟩ := u_known (C := RX6) (T := TX6) (N := 4) hxt xin_4 (hxt _ n_X0_17.2.1)
  obtain ⟨c5, i5, hK5⟩ := u_known (C := RX7) (T := TX7) (N := 2) hxt xin_5 (hxt _ n_X9_26.2.1)
  obtain ⟨c6, i6, hK6⟩ := u_known (C := RX9) (T := TX9) (N := 7) hxt xin_6 (hxt _ n_L_7.2.1)
  obtain ⟨c7, i7, hK7⟩ := u_known (C := RX10) (T := TX10) (N := 58) hxt xin_7 (hxt _ n_L_10.2.1)
  obtain ⟨cI, kI, pI, f1I, f2I, f3I⟩ := Cond.arrayClass_spec (hxt _ a_int)
  have hAI : ArrOfT s cI .int ∧ va_RA s cI .int := ⟨fun n z => ⟨fun k h => (by cases h), kI, f2I, pI, f3I⟩, f1I⟩
  obtain ⟨cZ, kZ, pZ, f1Z, f2Z, f3Z⟩ := Cond.arrayClass_spec (hxt _ a_boolean)
  have hAZ : ArrOfT s cZ .boolean ∧ va_RA s cZ .boolean := ⟨fun n z => ⟨fun k h => (by cases h), kZ, f2Z, pZ, f3Z⟩, f1Z⟩
  obtain ⟨cB, kB, pB, f1B, f2B, f3B⟩ := Cond.arrayClass_spec (hxt _ a_byte)
  have hAB : ArrOfT s cB .byte ∧ va_RA s cB .byte := ⟨fun n z => ⟨fun k h => (by cases h), kB, f2B, pB, f3B⟩, f1B⟩
  have hAO : (Cond.arrayOver (.object "ThumbSea$Person")).before #[Value.ref b] s = true := hT 46 _ (by decide +kernel)
  obtain ⟨pP, cP, kP, f1P, -, f2P, f3P, f4P⟩ := Cond.arrayOver_spec hAO
  have hAP : ArrOfT s cP (.object "ThumbSea$Person") ∧ va_RA s cP (.object "ThumbSea$Person") := ⟨fun N z => ⟨(fun k h => by cases h), kP, f2P, pP, f3P⟩, kP, pP, f2P, f3P, f1P, f4P⟩
  refine ⟨(s.heap.size, ad, t, (fun k => [c0, c1, c2, c3, c4, c5, c6, c7].getD k c0, fun k => [i0, i1, i2, i3, i4, i5, i6, i7].getD k i0), (cI, cZ, cB, cP), (b, L, xs)), rfl, rfl, ⟨fun k q hq => ?_, fun k q hq => ?_⟩, ?_, va_AO.of hAO, hEn, hZ, hTT, hX, hbl⟩
  · match k, hq with
    | 0, hq => cases hq; exact hK0
    | 1, hq => cases hq; exact hK1
    | 2, hq => cases hq; exact hK2
    | 3, hq => cases hq; exact hK3
    | 4, hq => cases hq; exact hK4
    | 5, hq => cases hq; exact hK5
    | 6, hq => cases hq; exact hK6
    | 7, hq => cases hq; exact hK7
    | n + 8, hq => simp [vwCl] at hq
  · match k, hq with
    | 0, hq => cases hq; exact hAI
    | 1, hq => cases hq; exact hAZ
    | 2, hq => cases hq; exact hAB
    | 3, hq => cases hq; exact hAP
    | n + 4, hq => simp [xtys] at hq
  · unfold xnest
    exact List.forall_mem_cons.mpr ⟨va_Nw.of rfl (hT 25 _ (by decide +kernel)), List.forall_mem_cons.mpr ⟨va_Nw.of rfl (hT 49 _ (by decide +kernel)), List.forall_mem_cons.mpr ⟨va_Nw.of rfl (hT 178 _ (by decide +kernel)), List.forall_mem_cons.mpr ⟨va_Nw.of rfl (hT 193 _ (by decide +kernel)), List.forall_mem_cons.mpr ⟨va_Nw.of rfl (hT 273 _ (by decide +kernel)), List.forall_mem_cons.mpr ⟨va_Nw.of rfl (hT 524 _ (by decide +kernel)), List.forall_mem_cons.mpr ⟨va_Nw.of rfl (hT 582 _ (by decide +kernel)), List.forall_mem_cons.mpr ⟨va_Nw.of rfl (hT 634 _ (by decide +kernel)), fun _ h => absurd h List.not_mem_nil⟩⟩⟩⟩⟩⟩⟩⟩
