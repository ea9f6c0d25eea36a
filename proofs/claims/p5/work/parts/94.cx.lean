/-! ===== what the law begins with ===== -/
set_option maxRecDepth 100000 in
theorem cx_kn {s : State} {args : Array Value} (hts : ∀ w ∈ lw_tbl, w.before args s = true) : ∃ D : va_G, ∀ (k : Nat) (q : vw_C), vwCl[k]? = some q → u_Kn s q.1 q.2.1 q.2.2 (D.1 k) (D.2 k) := by
  obtain ⟨c0, i0, h0⟩ := u_known (C := CN 0) (T := TT 0) (N := NN 0) (n := 11) hts (fun w hw => gtb_sub (in_at 0 (by decide) w hw)) (hts (.instantiable "LeftAnswers$Book" 11) (List.mem_of_getElem? (i := 389) (by decide +kernel)))
  obtain ⟨c1, i1, h1⟩ := u_known (C := CN 1) (T := TT 1) (N := NN 1) (n := 16) hts (fun w hw => gtb_sub (in_at 1 (by decide) w hw)) (hts (.instantiable "LeftAnswers$Duchy" 16) (List.mem_of_getElem? (i := 220) (by decide +kernel)))
  obtain ⟨c2, i2, h2⟩ := u_known (C := CN 2) (T := TT 2) (N := NN 2) (n := 4) hts (fun w hw => gtb_sub (in_at 2 (by decide) w hw)) (hts (.instantiable "LeftAnswers$Image" 4) (List.mem_of_getElem? (i := 529) (by decide +kernel)))
  obtain ⟨c3, i3, h3⟩ := u_known (C := CN 3) (T := TT 3) (N := NN 3) (n := 12) hts (fun w hw => gtb_sub (in_at 3 (by decide) w hw)) (hts (.instantiable "LeftAnswers$Life" 12) (List.mem_of_getElem? (i := 302) (by decide +kernel)))
  obtain ⟨c4, i4, h4⟩ := u_known (C := CN 4) (T := TT 4) (N := NN 4) (n := 5) hts (fun w hw => gtb_sub (in_at 4 (by decide) w hw)) (hts (.instantiable "LeftAnswers$Pairs" 5) (List.mem_of_getElem? (i := 490) (by decide +kernel)))
  obtain ⟨c5, i5, h5⟩ := u_known (C := CN 5) (T := TT 5) (N := NN 5) (n := 6) hts (fun w hw => gtb_sub (in_at 5 (by decide) w hw)) (hts (.instantiable "LeftAnswers$Parted" 6) (List.mem_of_getElem? (i := 464) (by decide +kernel)))
  obtain ⟨c6, i6, h6⟩ := u_known (C := CN 6) (T := TT 6) (N := NN 6) (n := 3) hts (fun w hw => gtb_sub (in_at 6 (by decide) w hw)) (hts (.instantiable "LeftAnswers$Past" 3) (List.mem_of_getElem? (i := 370) (by decide +kernel)))
  obtain ⟨c7, i7, h7⟩ := u_known (C := CN 7) (T := TT 7) (N := NN 7) (n := 6) hts (fun w hw => gtb_sub (in_at 7 (by decide) w hw)) (hts (.instantiable "LeftAnswers$Sentence" 6) (List.mem_of_getElem? (i := 435) (by decide +kernel)))
  obtain ⟨c8, i8, h8⟩ := u_known (C := CN 8) (T := TT 8) (N := NN 8) (n := 2) hts (fun w hw => gtb_sub (in_at 8 (by decide) w hw)) (hts (.instantiable "LeftAnswers$Slip" 2) (List.mem_of_getElem? (i := 513) (by decide +kernel)))
  obtain ⟨c9, i9, h9⟩ := u_known (C := CN 9) (T := TT 9) (N := NN 9) (n := 12) hts (fun w hw => gtb_sub (in_at 9 (by decide) w hw)) (hts (.instantiable "LeftAnswers$Tape" 12) (List.mem_of_getElem? (i := 160) (by decide +kernel)))
  obtain ⟨c10, i10, h10⟩ := u_known (C := CN 10) (T := TT 10) (N := NN 10) (n := 17) hts (fun w hw => gtb_sub (in_at 10 (by decide) w hw)) (hts (.instantiable "LeftAnswers" 17) (List.mem_of_getElem? (i := 152) (by decide +kernel)))
  obtain ⟨c11, i11, h11⟩ := u_known (C := CN 11) (T := TT 11) (N := NN 11) (n := 52) hts (fun w hw => gtb_sub (in_at 11 (by decide) w hw)) (hts (.instantiable "LeftAnswersModel" 52) (List.mem_of_getElem? (i := 1456) (by decide +kernel)))
  obtain ⟨c12, i12, h12⟩ := u_known (C := "java/util/NoSuchElementException") (T := (fun _ => ("", "", "", false))) (N := 0) (n := 6) hts (fun w hw => by cases hw) (hts (.instantiable "java/util/NoSuchElementException" 6) (List.mem_of_getElem? (i := 1383) (by decide +kernel)))
  refine ⟨(fun k => match k with
    | 0 => c0
    | 1 => c1
    | 2 => c2
    | 3 => c3
    | 4 => c4
    | 5 => c5
    | 6 => c6
    | 7 => c7
    | 8 => c8
    | 9 => c9
    | 10 => c10
    | 11 => c11
    | _ => c12, fun k => match k with
    | 0 => i0
    | 1 => i1
    | 2 => i2
    | 3 => i3
    | 4 => i4
    | 5 => i5
    | 6 => i6
    | 7 => i7
    | 8 => i8
    | 9 => i9
    | 10 => i10
    | 11 => i11
    | _ => i12), ?_⟩
  intro k q hq
  match k, hq with
  | 0, hq => cases hq; exact h0
  | 1, hq => cases hq; exact h1
  | 2, hq => cases hq; exact h2
  | 3, hq => cases hq; exact h3
  | 4, hq => cases hq; exact h4
  | 5, hq => cases hq; exact h5
  | 6, hq => cases hq; exact h6
  | 7, hq => cases hq; exact h7
  | 8, hq => cases hq; exact h8
  | 9, hq => cases hq; exact h9
  | 10, hq => cases hq; exact h10
  | 11, hq => cases hq; exact h11
  | 12, hq => cases hq; exact h12
  | k + 13, hq => simp [vwCl] at hq
theorem cx_ap {s : State} {args : Array Value} {ty : FieldType} (h : (Jvm.Cond.arrayClass ty).before args s = true) : ∃ cA : ClassId, ArrOfT s cA ty ∧ s.vm.findClass ("[" ++ ty.toString) = some cA := by
  obtain ⟨cA, k, comp, h1, h2, h3⟩ := Cond.arrayClass_spec h
  exact ⟨cA, fun N z => ⟨(fun k h => by cases h), k, h2, comp, h3⟩, h1⟩
theorem cx_ao {s : State} {args : Array Value} {C : String} (h : (Jvm.Cond.arrayOver (.object C)).before args s = true) : ∃ cA : ClassId, ArrOfT s cA (.object C) ∧ va_RA s cA (.object C) := by
  obtain ⟨comp, cA, k, h1, h2, h3, h4, h5⟩ := Cond.arrayOver_spec h
  exact ⟨cA, fun N z => ⟨(fun k h => by cases h), k, h3, comp, h4⟩, k, comp, h3, h4, h1, h5⟩
set_option maxRecDepth 100000 in
theorem cx_K {s : State} {args : Array Value} (hts : ∀ w ∈ lw_tbl, w.before args s = true) : ∃ (D : va_G) (ac : Nat → Nat), va_K D vwCl (ev_tys ac) s := by
  obtain ⟨D, hD⟩ := cx_kn hts
  obtain ⟨a0, p0, q0⟩ := cx_ap (hts (.arrayClass .byte) (List.mem_of_getElem? (i := 218) (by decide +kernel)))
  obtain ⟨a1, p1, q1⟩ := cx_ap (hts (.arrayClass .int) (List.mem_of_getElem? (i := 300) (by decide +kernel)))
  obtain ⟨a2, p2, q2⟩ := cx_ap (hts (.arrayClass .long) (List.mem_of_getElem? (i := 299) (by decide +kernel)))
  obtain ⟨a3, p3, q3⟩ := cx_ap (hts (.arrayClass .boolean) (List.mem_of_getElem? (i := 1628) (by decide +kernel)))
  obtain ⟨a4, p4, q4⟩ := cx_ao (hts (.arrayOver (.object "LeftAnswers$Word")) (List.mem_of_getElem? (i := 441) (by decide +kernel)))
  obtain ⟨a5, p5, q5⟩ := cx_ao (hts (.arrayOver (.object "LeftAnswers$Life")) (List.mem_of_getElem? (i := 376) (by decide +kernel)))
  obtain ⟨a6, p6, q6⟩ := cx_ao (hts (.arrayOver (.object "LeftAnswers$Image")) (List.mem_of_getElem? (i := 528) (by decide +kernel)))
  refine ⟨D, (fun k => match k with
    | 0 => a0
    | 1 => a1
    | 2 => a2
    | 3 => a3
    | 4 => a4
    | 5 => a5
    | _ => a6), hD, ?_⟩
  intro k q hq
  match k, hq with
  | 0, hq => cases hq; exact ⟨p0, q0⟩
  | 1, hq => cases hq; exact ⟨p1, q1⟩
  | 2, hq => cases hq; exact ⟨p2, q2⟩
  | 3, hq => cases hq; exact ⟨p3, q3⟩
  | 4, hq => cases hq; exact ⟨p4, q4⟩
  | 5, hq => cases hq; exact ⟨p5, q5⟩
  | 6, hq => cases hq; exact ⟨p6, q6⟩
  | k + 7, hq => simp [ev_tys] at hq
abbrev cx_fl : List Jvm.Cond := flatC (Jvm.Cond.and given_1 narrow_1)
set_option maxRecDepth 100000 in
theorem cy_ex : ∀ i, i < 32 → cx_fl[([4, 44, 116, 82, 119, 85, 122, 125, 88, 91, 128, 131, 134, 137, 140, 143, 99, 146, 149, 152, 108, 105, 111, 155, 158, 161, 164, 102, 167, 170, 173, 176] : List Nat).getD i 0]? = some (Jvm.Cond.exactly (.static "LeftAnswers$Word" (ev_nm.getD i "") "LLeftAnswers$Word;") "LeftAnswers$Word") := by decide +kernel
theorem cx_ex : ∀ i, i < 32 → Jvm.Cond.exactly (.static "LeftAnswers$Word" (ev_nm.getD i "") "LLeftAnswers$Word;") "LeftAnswers$Word" ∈ cx_fl := fun i hi => List.mem_of_getElem? (cy_ex i hi)
set_option maxRecDepth 100000 in
theorem cy_or : ∀ i, i < 32 → cx_fl[([5, 45, 117, 83, 120, 86, 123, 126, 89, 92, 129, 132, 135, 138, 141, 144, 100, 147, 150, 153, 109, 106, 112, 156, 159, 162, 165, 103, 168, 171, 174, 177] : List Nat).getD i 0]? = some (Jvm.Cond.eq (.field (.static "LeftAnswers$Word" (ev_nm.getD i "") "LLeftAnswers$Word;") "java/lang/Enum" "ordinal" "I") (.int (ev_or.getD i 0))) := by decide +kernel
theorem cx_or : ∀ i, i < 32 → Jvm.Cond.eq (.field (.static "LeftAnswers$Word" (ev_nm.getD i "") "LLeftAnswers$Word;") "java/lang/Enum" "ordinal" "I") (.int (ev_or.getD i 0)) ∈ cx_fl := fun i hi => List.mem_of_getElem? (cy_or i hi)
set_option maxRecDepth 100000 in
theorem cy_ls : ∀ i, i < 32 → lw_tbl[([166, 664, 2130, 703, 2131, 709, 2132, 2133, 734, 736, 2134, 2135, 2136, 2137, 2138, 2139, 1218, 2140, 2141, 2142, 1311, 1309, 1322, 2143, 2144, 2145, 2146, 1302, 2147, 2148, 2149, 2150] : List Nat).getD i 0]? = some (Jvm.Cond.laysStatic "LeftAnswers$Word" (ev_nm.getD i "") "LLeftAnswers$Word;") := by decide +kernel
theorem cx_ls : ∀ i, i < 32 → Jvm.Cond.laysStatic "LeftAnswers$Word" (ev_nm.getD i "") "LLeftAnswers$Word;" ∈ lw_tbl := fun i hi => List.mem_of_getElem? (cy_ls i hi)
set_option maxRecDepth 100000 in
theorem cy_sw : ∀ i, i < 32 → cx_fl[([50, 51, 52, 53, 54, 55, 56, 57, 58, 59, 60, 61, 62, 63, 64, 65, 66, 67, 68, 69, 70, 71, 72, 73, 74, 75, 76, 77, 78, 79, 80, 81] : List Nat).getD i 0]? = some (Jvm.Cond.eq (.elem (.static "LeftAnswers$1" "$SwitchMap$LeftAnswers$Word" "[I") (.int (Int32.ofNat i))) (.int (ev_sw.getD i 0))) := by decide +kernel
theorem cx_sw : ∀ i, i < 32 → Jvm.Cond.eq (.elem (.static "LeftAnswers$1" "$SwitchMap$LeftAnswers$Word" "[I") (.int (Int32.ofNat i))) (.int (ev_sw.getD i 0)) ∈ cx_fl := fun i hi => List.mem_of_getElem? (cy_sw i hi)
set_option maxRecDepth 100000 in
theorem cx_sa : Jvm.Cond.arrayOf (.static "LeftAnswers$1" "$SwitchMap$LeftAnswers$Word" "[I") .int ∈ cx_fl ∧ Jvm.Cond.eq (.length (.static "LeftAnswers$1" "$SwitchMap$LeftAnswers$Word" "[I")) (.int 32) ∈ cx_fl := by decide +kernel
set_option maxRecDepth 100000 in
theorem cy_al : ∀ i, i < 32 → cx_fl[([12, 13, 14, 15, 16, 17, 18, 19, 20, 21, 22, 23, 24, 25, 26, 27, 28, 29, 30, 31, 32, 33, 34, 35, 36, 37, 38, 39, 40, 41, 42, 43] : List Nat).getD i 0]? = some (Jvm.Cond.eq (.elem (.static "LeftAnswers$Word" "ALL" "[LLeftAnswers$Word;") (.int (Int32.ofNat i))) (.static "LeftAnswers$Word" (ev_nm.getD i "") "LLeftAnswers$Word;")) := by decide +kernel
theorem cx_al : ∀ i, i < 32 → Jvm.Cond.eq (.elem (.static "LeftAnswers$Word" "ALL" "[LLeftAnswers$Word;") (.int (Int32.ofNat i))) (.static "LeftAnswers$Word" (ev_nm.getD i "") "LLeftAnswers$Word;") ∈ cx_fl := fun i hi => List.mem_of_getElem? (cy_al i hi)
set_option maxRecDepth 100000 in
theorem cx_aa : Jvm.Cond.arrayOf (.static "LeftAnswers$Word" "ALL" "[LLeftAnswers$Word;") (.object "LeftAnswers$Word") ∈ cx_fl ∧ Jvm.Cond.eq (.length (.static "LeftAnswers$Word" "ALL" "[LLeftAnswers$Word;")) (.int 32) ∈ cx_fl := by decide +kernel
set_option maxRecDepth 100000 in
theorem cy_le : ∀ i, i < 32 → cx_fl[([6, 46, 118, 84, 121, 87, 124, 127, 90, 93, 130, 133, 136, 139, 142, 145, 101, 148, 151, 154, 110, 107, 113, 157, 160, 163, 166, 104, 169, 172, 175, 178] : List Nat).getD i 0]? = some (Jvm.Cond.eq (.field (.static "LeftAnswers$Word" (ev_nm.getD i "") "LLeftAnswers$Word;") "LeftAnswers$Word" "letters" "J") (.long (ev_lt.getD i 0))) := by decide +kernel
theorem cx_le : ∀ i, i < 32 → Jvm.Cond.eq (.field (.static "LeftAnswers$Word" (ev_nm.getD i "") "LLeftAnswers$Word;") "LeftAnswers$Word" "letters" "J") (.long (ev_lt.getD i 0)) ∈ cx_fl := fun i hi => List.mem_of_getElem? (cy_le i hi)
set_option maxRecDepth 100000 in
theorem cx_st : Jvm.Cond.eq (.static "java/lang/String" "COMPACT_STRINGS" "Z") (.int 1) ∈ cx_fl ∧ Jvm.Cond.isRef (.static "jdk/internal/util/Preconditions" "SIOOBE_FORMATTER" "Ljava/util/function/BiFunction;") ∈ cx_fl := by decide +kernel
set_option maxRecDepth 100000 in
theorem cy_t0 : ∀ i, i < 4 → cx_fl[([237, 247, 260, 271] : List Nat).getD i 0]? = some (Jvm.Cond.exactly (.string "LeftAnswers$Slip" (sx_ix.getD i 0)) "java/lang/String") := by decide +kernel
set_option maxRecDepth 100000 in
theorem cy_t1 : ∀ i, i < 4 → cx_fl[([238, 248, 261, 272] : List Nat).getD i 0]? = some (Jvm.Cond.eq (.field (.string "LeftAnswers$Slip" (sx_ix.getD i 0)) "java/lang/String" "coder" "B") (.int 0)) := by decide +kernel
set_option maxRecDepth 100000 in
theorem cy_t2 : ∀ i, i < 4 → cx_fl[([239, 249, 262, 273] : List Nat).getD i 0]? = some (Jvm.Cond.arrayOf (.field (.string "LeftAnswers$Slip" (sx_ix.getD i 0)) "java/lang/String" "value" "[B") .byte) := by decide +kernel
set_option maxRecDepth 100000 in
theorem cy_t3 : ∀ i, i < 4 → cx_fl[([240, 250, 263, 274] : List Nat).getD i 0]? = some (Jvm.Cond.eq (.length (.field (.string "LeftAnswers$Slip" (sx_ix.getD i 0)) "java/lang/String" "value" "[B")) (.int (Int32.ofNat (ev_txs.getD i []).length))) := by decide +kernel
set_option maxRecDepth 100000 in
theorem cy_t4 : ∀ i, i < 4 → ∀ j, j < (ev_txs.getD i []).length → cx_fl[(([[241, 242, 243, 244, 245, 246], [251, 252, 253, 254, 255, 256, 257, 258, 259], [264, 265, 266, 267, 268, 269, 270], [275, 276, 277, 278, 279, 280, 281, 282]] : List (List Nat)).getD i []).getD j 0]? = some (Jvm.Cond.eq (.elem (.field (.string "LeftAnswers$Slip" (sx_ix.getD i 0)) "java/lang/String" "value" "[B") (.int (Int32.ofNat j))) (.int ((ev_txs.getD i []).getD j 0))) := by decide +kernel
set_option maxRecDepth 100000 in
theorem cx_tx : ∀ i, i < 4 → Jvm.Cond.exactly (.string "LeftAnswers$Slip" (sx_ix.getD i 0)) "java/lang/String" ∈ cx_fl ∧ Jvm.Cond.eq (.field (.string "LeftAnswers$Slip" (sx_ix.getD i 0)) "java/lang/String" "coder" "B") (.int 0) ∈ cx_fl ∧ Jvm.Cond.arrayOf (.field (.string "LeftAnswers$Slip" (sx_ix.getD i 0)) "java/lang/String" "value" "[B") .byte ∈ cx_fl ∧ Jvm.Cond.eq (.length (.field (.string "LeftAnswers$Slip" (sx_ix.getD i 0)) "java/lang/String" "value" "[B")) (.int (Int32.ofNat (ev_txs.getD i []).length)) ∈ cx_fl ∧ ∀ j, j < (ev_txs.getD i []).length → Jvm.Cond.eq (.elem (.field (.string "LeftAnswers$Slip" (sx_ix.getD i 0)) "java/lang/String" "value" "[B") (.int (Int32.ofNat j))) (.int ((ev_txs.getD i []).getD j 0)) ∈ cx_fl := fun i hi => ⟨List.mem_of_getElem? (cy_t0 i hi), List.mem_of_getElem? (cy_t1 i hi), List.mem_of_getElem? (cy_t2 i hi), List.mem_of_getElem? (cy_t3 i hi), fun j hj => List.mem_of_getElem? (cy_t4 i hi j hj)⟩
set_option maxRecDepth 100000 in
theorem cx_tb : (∀ i, i < 4 → Jvm.Cond.stringRef "LeftAnswers$Slip" (sx_ix.getD i 0) (sx_tx.getD i "") ∈ lw_tbl) ∧ Jvm.Cond.laysStatic "LeftAnswers$Word" "ALL" "[LLeftAnswers$Word;" ∈ lw_tbl ∧ Jvm.Cond.laysStatic "java/lang/String" "COMPACT_STRINGS" "Z" ∈ lw_tbl ∧ Jvm.Cond.laysStatic "jdk/internal/util/Preconditions" "SIOOBE_FORMATTER" "Ljava/util/function/BiFunction;" ∈ lw_tbl ∧ Jvm.Cond.initialized "java/lang/String" ∈ lw_tbl ∧ Jvm.Cond.initialized "jdk/internal/util/Preconditions" ∈ lw_tbl := by decide +kernel
theorem cx_str {s : State} {args : Array Value} {own : String} {k : Nat} {bs : List Int32} {A : Nat → Prop} (hN : bs.length < 2 ^ 31) (hex : (Cond.exactly (.string own k) "java/lang/String").before args s = true) (hco : (Cond.eq (.field (.string own k) "java/lang/String" "coder" "B") (.int 0)).before args s = true) (har : (Cond.arrayOf (.field (.string own k) "java/lang/String" "value" "[B") .byte).before args s = true) (hle : (Cond.eq (.length (.field (.string own k) "java/lang/String" "value" "[B")) (.int (Int32.ofNat bs.length))).before args s = true)
    (hel : ∀ j : Nat, j < bs.length → (Cond.eq (.elem (.field (.string own k) "java/lang/String" "value" "[B") (.int (Int32.ofNat j))) (.int (bs.getD j 0))).before args s = true) (hA : ∀ a : Nat, a < s.heap.size → ¬ A a) : ∃ a t : Nat, (Term.string own k).eval args s none [] s = some (.ref a) ∧ va_O "java/lang/String" a A s s.heap ∧ va_OF "java/lang/String" "coder" "B" (.int 0) a A s s.heap ∧ va_OF "java/lang/String" "value" "[B" (.ref t) a A s s.heap ∧ va_T .byte t bs.length (fun j => .int (bs.getD j 0)) A s s.heap := by
  obtain ⟨adK, adV, h1, h2⟩ := vk_Sof (N := 1) (tm := fun _ => .string own k) (len := [bs.length]) (byt := [bs]) (A := A) (fun i hi => by match i, hi with | 0, _ => exact hN) (fun _ _ => hex) (fun _ _ => hco) (fun _ _ => har) (fun i hi => by match i, hi with | 0, _ => exact hle) (fun i hi j hj => by match i, hi, hj with | 0, _, hj => exact hel j hj) (fun i j hi hj hne => absurd (show i = j by omega) hne) hA
  have h3 := h1.1 0 (by decide)
  exact ⟨adK 0, adV 0, h2 0 (by decide), h3.1, h3.2.1, h3.2.2.1, h3.2.2.2⟩
theorem cx_eqs {args : Array Value} {s : State} {t u : Term} {a : Nat} (h : (Cond.eq t u).before args s = true) (hu : u.eval args s none [] s = some (.ref a)) : t.eval args s none [] s = some (.ref a) := by
  cases hv : t.eval args s none [] s with
  | none => simp [Cond.before, Cond.holds, Cond.value, hv] at h
  | some w =>
    simp only [Cond.before, Cond.holds, Cond.value, hv, hu] at h
    cases w <;> simp_all
set_option maxRecDepth 100000 in
theorem cx_E {s : State} {args : Array Value} (hts : ∀ w ∈ lw_tbl, w.before args s = true) (hgv : (Jvm.Cond.and given_1 narrow_1).before args s = true) (b0 : Nat) : ∃ en : Nat → Nat, ex_E s.heap.size en s s.heap ∧ en 200 = b0 := by
  have hs := flat_of_before _ hgv
  have hA : ∀ a : Nat, a < s.heap.size → ¬ ev_A s.heap.size a := fun a h q => absurd h (Nat.not_lt.mpr q)
  have hini : (Jvm.Cond.initialized "LeftAnswers$Word").before args s = true := hts _ (List.mem_of_getElem? (i := 128) (by decide +kernel))
  have hini1 : (Jvm.Cond.initialized "LeftAnswers$1").before args s = true := hts _ (List.mem_of_getElem? (i := 139) (by decide +kernel))
  obtain ⟨t, ht, hT⟩ := va_Tof (A := ev_A s.heap.size) (N := 32) (f := fun j => .int (ev_sw.getD j 0)) (by decide) (hs _ cx_sa.1) (va_eqt (hs _ cx_sa.2)) (fun j hj => va_eqt (hs _ (cx_sw j hj))) hA
  have h00 : ∀ i : Nat, ∃ u : Nat, i < 32 → (Term.static "LeftAnswers$Word" (ev_nm.getD i "") "LLeftAnswers$Word;").eval args s none [] s = some (.ref u) := by
    intro i
    by_cases hi : i < 32
    · obtain ⟨a, c, cell, k, q1, -⟩ := Cond.exactly_spec (hs _ (cx_ex i hi))
      exact ⟨a, fun _ => q1⟩
    · exact ⟨0, fun h => absurd h hi⟩
  obtain ⟨en0, hen0⟩ := Classical.axiomOfChoice h00
  obtain ⟨tA, htA, hTA⟩ := va_Tof (A := ev_A s.heap.size) (N := 32) (f := fun j => .ref (en0 j)) (by decide) (hs _ cx_aa.1) (va_eqt (hs _ cx_aa.2)) (fun j hj => cx_eqs (hs _ (cx_al j hj)) (hen0 j hj)) hA
  have hstr : ∀ i : Nat, ∃ q : Nat × Nat, i < 4 → (Term.string "LeftAnswers$Slip" (sx_ix.getD i 0)).eval args s none [] s = some (.ref q.1) ∧ va_O "java/lang/String" q.1 (ev_A s.heap.size) s s.heap ∧ va_OF "java/lang/String" "coder" "B" (.int 0) q.1 (ev_A s.heap.size) s s.heap ∧ va_OF "java/lang/String" "value" "[B" (.ref q.2) q.1 (ev_A s.heap.size) s s.heap ∧ va_T .byte q.2 (ev_txs.getD i []).length (fun j => .int ((ev_txs.getD i []).getD j 0)) (ev_A s.heap.size) s s.heap := by
    intro i
    by_cases hi : i < 4
    · obtain ⟨k1, k2, k3, k4, k5⟩ := cx_tx i hi
      have hl : ∀ i, i < 4 → (ev_txs.getD i []).length < 2 ^ 31 := by decide +kernel
      obtain ⟨a, t, h⟩ := cx_str (A := ev_A s.heap.size) (hl i hi) (hs _ k1) (hs _ k2) (hs _ k3) (hs _ k4) (fun j hj => hs _ (k5 j hj)) hA
      exact ⟨(a, t), fun _ => h⟩
    · exact ⟨(0, 0), fun h => absurd h hi⟩
  obtain ⟨ad, had⟩ := Classical.axiomOfChoice hstr
  let en : Nat → Nat := fun i => if i < 32 then en0 i else if i = 100 then t else if i = 101 then tA else if i = 200 then b0 else if i < 304 then (ad (i - 300)).1 else (ad (i - 310)).2
  have hen : ∀ i, i < 32 → en i = en0 i := fun i hi => if_pos hi
  have hof : ∀ i, i < 32 → va_OF "java/lang/Enum" "ordinal" "I" (.int (ev_or.getD i 0)) (en i) (ev_A s.heap.size) s s.heap := fun i hi => by
    rw [hen i hi]
    exact vk_OFof (hen0 i hi) (va_eqt (hs _ (cx_or i hi))) hA
  have hdist : ∀ i j, i < 32 → j < 32 → ev_or.getD i 0 = ev_or.getD j 0 → i = j := by
    have hd : ∀ i, i < 32 → ∀ j, j < 32 → ev_or.getD i 0 = ev_or.getD j 0 → i = j := by decide +kernel
    exact fun i j hi hj => hd i hi j hj
  have hE0 : ev_E s.heap.size en s s.heap := by
    refine ⟨⟨fun i hi => ⟨?_, ?_, fun q hq => ?_⟩, fun i j hi hj e => ?_⟩, ?_, ?_, ?_, ?_, ?_⟩
    · rw [hen i hi]
      exact va_Zref (hts _ (cx_ls i hi)) hini (hen0 i hi) hA
    · rw [hen i hi]
      exact va_Oof (hs _ (cx_ex i hi)) (hen0 i hi) hA
    · rw [List.mem_singleton.mp hq]
      exact hof i hi
    · obtain ⟨cf, k, fi, f, cell, g1, g2, g3, g4, g5, -⟩ := hof i hi
      obtain ⟨cf2, k2, fi2, f2, cell2, r1, r2, r3, r4, r5, -⟩ := hof j hj
      rw [g1] at r1
      cases r1
      rw [← e, g3] at r3
      cases r3
      rw [g5] at r5
      exact hdist i j hi hj (by injection r5 with r5; injection r5)
    · exact va_Zref (hts _ (List.mem_of_getElem? (i := 673) (by decide +kernel))) hini1 ht hA
    · exact hT
    · exact va_AO.of (hts _ (List.mem_of_getElem? (i := 441) (by decide +kernel)))
    · exact va_AO.of (hts _ (List.mem_of_getElem? (i := 376) (by decide +kernel)))
    · exact va_AO.of (hts _ (List.mem_of_getElem? (i := 528) (by decide +kernel)))
  refine ⟨en, ⟨hE0, va_Zref (hts _ cx_tb.2.1) hini htA hA, ?_, fun i hi => ?_, va_Zof (hts _ cx_tb.2.2.1) (hts _ cx_tb.2.2.2.2.1) (va_eqt (hs _ cx_st.1)) hA, fun v h1 h2 => ?_, va_Zqof (hts _ cx_tb.2.2.2.1) (hts _ cx_tb.2.2.2.2.2) (hs _ cx_st.2) hA⟩, rfl⟩
  · have hf : va_T (.object "LeftAnswers$Word") tA 32 (fun j => .ref (en j)) (ev_A s.heap.size) s s.heap := by
      obtain ⟨cell, c1, c2, c3, c4, c5, c6, c7⟩ := hTA
      exact ⟨cell, c1, c2, c3, c4, c5, fun j hj => by show cell.slots[j]? = some (Value.ref (en j)); rw [hen j hj]; exact c6 j hj, c7⟩
    exact hf
  · rw [hen i hi]
    exact vk_OFof (hen0 i hi) (va_eqtl (hs _ (cx_le i hi))) hA
  · obtain ⟨i, rfl⟩ : ∃ i, v = 300 + i := ⟨v - 300, by omega⟩
    have hi : i < 4 := by omega
    have e1 : en (300 + i) = (ad i).1 := by
      show (if 300 + i < 32 then _ else if 300 + i = 100 then _ else if 300 + i = 101 then _ else if 300 + i = 200 then _ else if 300 + i < 304 then _ else _) = _
      rw [if_neg (by omega), if_neg (by omega), if_neg (by omega), if_neg (by omega), if_pos (by omega), Nat.add_sub_cancel_left]
    have e2 : en (300 + i + 10) = (ad i).2 := by
      show (if 300 + i + 10 < 32 then _ else if 300 + i + 10 = 100 then _ else if 300 + i + 10 = 101 then _ else if 300 + i + 10 = 200 then _ else if 300 + i + 10 < 304 then _ else _) = _
      rw [if_neg (by omega), if_neg (by omega), if_neg (by omega), if_neg (by omega), if_neg (by omega), show 300 + i + 10 - 310 = i by omega]
    obtain ⟨k1, k2, k3, k4, k5⟩ := had i hi
    unfold ex_S
    rw [e1, e2, Nat.add_sub_cancel_left]
    have e3 : ev_tx (300 + i) = ev_txs.getD i [] := by unfold ev_tx; rw [Nat.add_sub_cancel_left]
    rw [e3]
    exact ⟨vk_R.of (hts _ (cx_tb.1 i hi)) k1, k2, k3, k4, k5⟩

theorem cx_C {p : Program} {s : State} {m : MethodId} {meth : Method} {c : Code} {b0 L : Nat} {xs : Nat → Int32} (C0 : lw_At p s m meth c b0 L xs) : ∃ (D : va_G) (ac en : Nat → Nat), ex_C p s m #[Value.ref b0] meth c s.heap.size en ac D MM 300 ∧ en 200 = b0 := by
  obtain ⟨hx, hb, hr, hml, hown, hts, hX, hbl, hlocks, hgv⟩ := C0
  obtain ⟨D, ac, hK⟩ := cx_K hts
  obtain ⟨en, hE, h2⟩ := cx_E hts hgv b0
  exact ⟨D, ac, en, ⟨hx, hb, hml, hown, fun w hw => hts w (gtb_sub hw), hK, hE, Nat.le_refl _, hlocks, hr, fun h => absurd h (by decide)⟩, h2⟩
