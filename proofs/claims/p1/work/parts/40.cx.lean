/-! ===== what the law begins with ===== -/
set_option maxRecDepth 100000 in
theorem cx_kn {s : State} {args : Array Value} (hts : ∀ w ∈ lw_tbl, w.before args s = true) : ∃ D : va_G, ∀ (k : Nat) (q : vw_C), vwCl[k]? = some q → u_Kn s q.1 q.2.1 q.2.2 (D.1 k) (D.2 k) := by
  obtain ⟨c0, i0, h0⟩ := u_known (C := CN 0) (T := TT 0) (N := NN 0) (n := 11) hts (fun w hw => gtb_sub (in_at 0 (by decide) w hw)) (hts (.instantiable "LeftAnswers$Book" 11) (List.mem_of_getElem? (i := 389) (by decide +kernel)))
  obtain ⟨c1, i1, h1⟩ := u_known (C := CN 1) (T := TT 1) (N := NN 1) (n := 16) hts (fun w hw => gtb_sub (in_at 1 (by decide) w hw)) (hts (.instantiable "LeftAnswers$Duchy" 16) (List.mem_of_getElem? (i := 220) (by decide +kernel)))
  obtain ⟨c2, i2, h2⟩ := u_known (C := CN 2) (T := TT 2) (N := NN 2) (n := 4) hts (fun w hw => gtb_sub (in_at 2 (by decide) w hw)) (hts (.instantiable "LeftAnswers$Image" 4) (List.mem_of_getElem? (i := 529) (by decide +kernel)))
  obtain ⟨c3, i3, h3⟩ := u_known (C := CN 3) (T := TT 3) (N := NN 3) (n := 12) hts (fun w hw => gtb_sub (in_at 3 (by decide) w hw)) (hts (.instantiable "LeftAnswers$Life" 12) (List.mem_of_getElem? (i := 302) (by decide +kernel)))
  obtain ⟨c4, i4, h4⟩ := u_known (C := CN 4) (T := TT 4) (N := NN 4) (n := 5) hts (fun w hw => gtb_sub (in_at 4 (by decide) w hw)) (hts (.instantiable "LeftAnswers$Pairs" 5) (List.mem_of_getElem? (i := 490) (by decide +kernel)))
  obtain ⟨c5, i5, h5⟩ := u_known (C := CN 5) (T := TT 5) (N := NN 5) (n := 6) hts (fun w hw => gtb_sub (in_at 5 (by decide) w hw)) (hts (.instantiable "LeftAnswers$Parted" 6) (List.mem_of_getElem? (i := 464) (by decide +kernel)))
  obtain ⟨c6, i6, h6⟩ := u_known (C := CN 6) (T := TT 6) (N := NN 6) (n := 3) hts (fun w hw => gtb_sub (in_at 6 (by decide) w hw)) (hts (.instantiable "LeftAnswers$Past" 3) (List.mem_of_getElem? (i := 370) (by decide +kernel)))
  obtain ⟨c7, i7, h7⟩ := u_known (C := CN 7) (T := TT 7) (N := NN 7) (n := 6) hts (fun w hw => gtb_sub (in_at 7 (by decide) w hw)) (hts (.instantiable "LeftAnswers$Sentence" 6) (List.mem_of_getElem? (i := 435) (by decide +kernel)))
  obtain ⟨c8, i8, h8⟩ := u_known (C := CN 8) (T := TT 8) (N := NN 8) (n := 2) hts (fun w hw => gtb_sub (in_at 8 (by decide) w hw)) (hts (.instantiable "LeftAnswers$Slip" 2) (List.mem_of_getElem? (i := 513) (by decide +kernel)))
  obtain ⟨c9, i9, h9⟩ := u_known (C := CN 9) (T := TT 9) (N := NN 9) (n := 12) hts (fun w hw => gtb_sub (in_at 9 (by decide) w hw)) (hts (.instantiable "LeftAnswers$Tape" 12) (List.mem_of_getElem? (i := 160) (by decide +kernel)))
  obtain ⟨c10, i10, h10⟩ := u_known (C := CN 10) (T := TT 10) (N := NN 10) (n := 17) hts (fun w hw => gtb_sub (in_at 10 (by decide) w hw)) (hts (.instantiable "LeftAnswers" 17) (List.mem_of_getElem? (i := 152) (by decide +kernel)))
  obtain ⟨c11, i11, h11⟩ := u_known (C := CN 11) (T := TT 11) (N := NN 11) (n := 52) hts (fun w hw => gtb_sub (in_at 11 (by decide) w hw)) (hts (.instantiable "LeftAnswersModel" 52) (List.mem_of_getElem? (i := 1460) (by decide +kernel)))
  obtain ⟨c12, i12, h12⟩ := u_known (C := "java/util/NoSuchElementException") (T := (fun _ => ("", "", "", false))) (N := 0) (n := 6) hts (fun w hw => by cases hw) (hts (.instantiable "java/util/NoSuchElementException" 6) (List.mem_of_getElem? (i := 1383) (by decide +kernel)))
  refine ⟨(fun k => match k with
    | 0 => c0
    | 1 => c1
    | 2 => c2
    | 3 => c3
    | 4 => c4
    | 5 => c5
    | 6 => c6
    | 7 => c7
    | 8 => c8
    | 9 => c9
    | 10 => c10
    | 11 => c11
    | _ => c12, fun k => match k with
    | 0 => i0
    | 1 => i1
    | 2 => i2
    | 3 => i3
    | 4 => i4
    | 5 => i5
    | 6 => i6
    | 7 => i7
    | 8 => i8
    | 9 => i9
    | 10 => i10
    | 11 => i11
    | _ => i12), ?_⟩
  intro k q hq
  match k, hq with
  | 0, hq => cases hq; exact h0
  | 1, hq => cases hq; exact h1
  | 2, hq => cases hq; exact h2
  | 3, hq => cases hq; exact h3
  | 4, hq => cases hq; exact h4
  | 5, hq => cases hq; exact h5
  | 6, hq => cases hq; exact h6
  | 7, hq => cases hq; exact h7
  | 8, hq => cases hq; exact h8
  | 9, hq => cases hq; exact h9
  | 10, hq => cases hq; exact h10
  | 11, hq => cases hq; exact h11
  | 12, hq => cases hq; exact h12
  | k + 13, hq => simp [vwCl] at hq
theorem cx_ap {s : State} {args : Array Value} {ty : FieldType} (h : (Jvm.Cond.arrayClass ty).before args s = true) : ∃ cA : ClassId, ArrOfT s cA ty ∧ s.vm.findClass ("[" ++ ty.toString) = some cA := by
  obtain ⟨cA, k, comp, h1, h2, h3⟩ := Cond.arrayClass_spec h
  exact ⟨cA, fun N z => ⟨(fun k h => by cases h), k, h2, comp, h3⟩, h1⟩
theorem cx_ao {s : State} {args : Array Value} {C : String} (h : (Jvm.Cond.arrayOver (.object C)).before args s = true) : ∃ cA : ClassId, ArrOfT s cA (.object C) ∧ va_RA s cA (.object C) := by
  obtain ⟨comp, cA, k, h1, h2, h3, h4, h5⟩ := Cond.arrayOver_spec h
  exact ⟨cA, fun N z => ⟨(fun k h => by cases h), k, h3, comp, h4⟩, k, comp, h3, h4, h1, h5⟩
set_option maxRecDepth 100000 in
theorem cx_K {s : State} {args : Array Value} (hts : ∀ w ∈ lw_tbl, w.before args s = true) : ∃ (D : va_G) (ac : Nat → Nat), va_K D vwCl (ev_tys ac) s := by
  obtain ⟨D, hD⟩ := cx_kn hts
  obtain ⟨a0, p0, q0⟩ := cx_ap (hts (.arrayClass .byte) (List.mem_of_getElem? (i := 218) (by decide +kernel)))
  obtain ⟨a1, p1, q1⟩ := cx_ap (hts (.arrayClass .int) (List.mem_of_getElem? (i := 300) (by decide +kernel)))
  obtain ⟨a2, p2, q2⟩ := cx_ap (hts (.arrayClass .long) (List.mem_of_getElem? (i := 299) (by decide +kernel)))
  obtain ⟨a3, p3, q3⟩ := cx_ap (hts (.arrayClass .boolean) (List.mem_of_getElem? (i := 1632) (by decide +kernel)))
  obtain ⟨a4, p4, q4⟩ := cx_ao (hts (.arrayOver (.object "LeftAnswers$Word")) (List.mem_of_getElem? (i := 441) (by decide +kernel)))
  obtain ⟨a5, p5, q5⟩ := cx_ao (hts (.arrayOver (.object "LeftAnswers$Life")) (List.mem_of_getElem? (i := 376) (by decide +kernel)))
  obtain ⟨a6, p6, q6⟩ := cx_ao (hts (.arrayOver (.object "LeftAnswers$Image")) (List.mem_of_getElem? (i := 528) (by decide +kernel)))
  refine ⟨D, (fun k => match k with
    | 0 => a0
    | 1 => a1
    | 2 => a2
    | 3 => a3
    | 4 => a4
    | 5 => a5
    | _ => a6), hD, ?_⟩
  intro k q hq
  match k, hq with
  | 0, hq => cases hq; exact ⟨p0, q0⟩
  | 1, hq => cases hq; exact ⟨p1, q1⟩
  | 2, hq => cases hq; exact ⟨p2, q2⟩
  | 3, hq => cases hq; exact ⟨p3, q3⟩
  | 4, hq => cases hq; exact ⟨p4, q4⟩
  | 5, hq => cases hq; exact ⟨p5, q5⟩
  | 6, hq => cases hq; exact ⟨p6, q6⟩
  | k + 7, hq => simp [ev_tys] at hq
abbrev cx_fl : List Jvm.Cond := flatC (Jvm.Cond.and given_1 narrow_1)
set_option maxRecDepth 100000 in
theorem cx_ex : ∀ i, i < 32 → Jvm.Cond.exactly (.static "LeftAnswers$Word" (ev_nm.getD i "") "LLeftAnswers$Word;") "LeftAnswers$Word" ∈ cx_fl := by decide +kernel
set_option maxRecDepth 100000 in
theorem cx_or : ∀ i, i < 32 → Jvm.Cond.eq (.field (.static "LeftAnswers$Word" (ev_nm.getD i "") "LLeftAnswers$Word;") "java/lang/Enum" "ordinal" "I") (.int (ev_or.getD i 0)) ∈ cx_fl := by decide +kernel
set_option maxRecDepth 100000 in
theorem cx_ls : ∀ i, i < 32 → Jvm.Cond.laysStatic "LeftAnswers$Word" (ev_nm.getD i "") "LLeftAnswers$Word;" ∈ lw_tbl := by decide +kernel
set_option maxRecDepth 100000 in
theorem cx_sw : ∀ i, i < 32 → Jvm.Cond.eq (.elem (.static "LeftAnswers$1" "$SwitchMap$LeftAnswers$Word" "[I") (.int (Int32.ofNat i))) (.int (ev_sw.getD i 0)) ∈ cx_fl := by decide +kernel
set_option maxRecDepth 100000 in
theorem cx_sa : Jvm.Cond.arrayOf (.static "LeftAnswers$1" "$SwitchMap$LeftAnswers$Word" "[I") .int ∈ cx_fl ∧ Jvm.Cond.eq (.length (.static "LeftAnswers$1" "$SwitchMap$LeftAnswers$Word" "[I")) (.int 32) ∈ cx_fl := by decide +kernel
set_option maxRecDepth 100000 in
theorem cx_E {s : State} {args : Array Value} (hts : ∀ w ∈ lw_tbl, w.before args s = true) (hgv : (Jvm.Cond.and given_1 narrow_1).before args s = true) (b0 : Nat) : ∃ en : Nat → Nat, ev_E s.heap.size en s s.heap ∧ en 200 = b0 := by
  have hs := flat_of_before _ hgv
  have hA : ∀ a : Nat, a < s.heap.size → ¬ ev_A s.heap.size a := fun a h q => absurd h (Nat.not_lt.mpr q)
  have hini : (Jvm.Cond.initialized "LeftAnswers$Word").before args s = true := hts _ (List.mem_of_getElem? (i := 128) (by decide +kernel))
  have hini1 : (Jvm.Cond.initialized "LeftAnswers$1").before args s = true := hts _ (List.mem_of_getElem? (i := 139) (by decide +kernel))
  obtain ⟨t, ht, hT⟩ := va_Tof (A := ev_A s.heap.size) (N := 32) (f := fun j => .int (ev_sw.getD j 0)) (by decide) (hs _ cx_sa.1) (va_eqt (hs _ cx_sa.2)) (fun j hj => va_eqt (hs _ (cx_sw j hj))) hA
  have h0 : ∀ i : Nat, ∃ u : Nat, (i < 32 → (Term.static "LeftAnswers$Word" (ev_nm.getD i "") "LLeftAnswers$Word;").eval args s none [] s = some (.ref u)) ∧ (i = 100 → u = t) ∧ (i = 200 → u = b0) := by
    intro i
    by_cases hi : i < 32
    · obtain ⟨a, c, cell, k, q1, -⟩ := Cond.exactly_spec (hs _ (cx_ex i hi))
      exact ⟨a, fun _ => q1, fun h => by omega, fun h => by omega⟩
    · by_cases h1 : i = 100
      · exact ⟨t, fun h => absurd h hi, fun _ => rfl, fun h => by omega⟩
      · exact ⟨b0, fun h => absurd h hi, fun h => absurd h h1, fun _ => rfl⟩
  obtain ⟨en, hen⟩ := Classical.axiomOfChoice h0
  have hof : ∀ i, i < 32 → va_OF "java/lang/Enum" "ordinal" "I" (.int (ev_or.getD i 0)) (en i) (ev_A s.heap.size) s s.heap := fun i hi => vk_OFof ((hen i).1 hi) (va_eqt (hs _ (cx_or i hi))) hA
  have hdist : ∀ i j, i < 32 → j < 32 → ev_or.getD i 0 = ev_or.getD j 0 → i = j := by
    have hd : ∀ i, i < 32 → ∀ j, j < 32 → ev_or.getD i 0 = ev_or.getD j 0 → i = j := by decide +kernel
    exact fun i j hi hj => hd i hi j hj
  refine ⟨en, ⟨⟨fun i hi => ⟨va_Zref (hts _ (cx_ls i hi)) hini ((hen i).1 hi) hA, va_Oof (hs _ (cx_ex i hi)) ((hen i).1 hi) hA, fun q hq => ?_⟩, fun i j hi hj e => ?_⟩, ?_, ?_, ?_, ?_, ?_⟩, (hen 200).2.2 rfl⟩
  · rw [List.mem_singleton.mp hq]
    exact hof i hi
  · obtain ⟨cf, k, fi, f, cell, g1, g2, g3, g4, g5, -⟩ := hof i hi
    obtain ⟨cf2, k2, fi2, f2, cell2, r1, r2, r3, r4, r5, -⟩ := hof j hj
    rw [g1] at r1
    cases r1
    rw [← e, g3] at r3
    cases r3
    rw [g5] at r5
    exact hdist i j hi hj (by injection r5 with r5; injection r5)
  · rw [(hen 100).2.1 rfl]
    exact va_Zref (hts _ (List.mem_of_getElem? (i := 673) (by decide +kernel))) hini1 ht hA
  · rw [(hen 100).2.1 rfl]
    exact hT
  · exact va_AO.of (hts _ (List.mem_of_getElem? (i := 441) (by decide +kernel)))
  · exact va_AO.of (hts _ (List.mem_of_getElem? (i := 376) (by decide +kernel)))
  · exact va_AO.of (hts _ (List.mem_of_getElem? (i := 528) (by decide +kernel)))
theorem cx_C {p : Program} {s : State} {m : MethodId} {meth : Method} {c : Code} {b0 L : Nat} {xs : Nat → Int32} (C0 : lw_At p s m meth c b0 L xs) : ∃ (D : va_G) (ac en : Nat → Nat), ev_C p s m #[Value.ref b0] meth c s.heap.size en ac D MM 161 ∧ en 200 = b0 := by
  obtain ⟨hx, hb, hr, hml, hown, hts, hX, hbl, hlocks, hgv⟩ := C0
  obtain ⟨D, ac, hK⟩ := cx_K hts
  obtain ⟨en, hE, h2⟩ := cx_E hts hgv b0
  exact ⟨D, ac, en, ⟨hx, hb, hml, hown, fun w hw => hts w (gtb_sub hw), hK, hE, Nat.le_refl _, hlocks, hr, fun h => absurd h (by decide)⟩, h2⟩
