/-! ===== the law ===== -/
theorem lw_lt : ∀ L, L < 6 → Int32.ofNat L - 6 < 0 := by decide +kernel
theorem wk_st {p : Program} {l : Launch} {e : Env} {R : Room} {s : State} {m : MethodId} {args : Array Value} {below : List Frame} {meth : Method} {c : Code} {Q : State → Prop} {b : Nat} {en ac : Nat → Nat} {D : va_G} {M : MT} {mi pc k ks : Nat} {L : List (Nat × Value)} {st : List Value} {hp : List AE} (st' : List Value) (h : st = st') (w : Wk p l e R s m args below meth c b en ac D M mi Q pc L st' hp k ks) : Wk p l e R s m args below meth c b en ac D M mi Q pc L st hp k ks := by
  rw [h]; exact w
theorem pe_w8 : ∀ w ∈ va_wsS "LeftAnswersLaw" 38 (mY MM 163) (.codeWith (mY MM 163) (mB MM 163) (mL MM 163) (mR MM 163) [(0, 10, 13, 13)] :: gtb), w ∈ gtb := by
  intro u hu
  rcases List.mem_append.mp hu with hu | hu
  · have h : ∀ w ∈ [Cond.methodLink "LeftAnswersLaw" 38 (mY MM 163), Cond.static (mY MM 163), Cond.initialized (mY MM 163).cls], w ∈ gtb := by decide +kernel
    exact h u hu
  · rcases List.mem_cons.mp hu with rfl | hu
    · have h : Cond.codeWith (mY MM 163) (mB MM 163) (mL MM 163) (mR MM 163) [(0, 10, 13, 13)] ∈ gtb := by decide +kernel
      exact h
    · exact hu
theorem pe_w9 : (mY MM 163).cls ≠ "java/lang/invoke/MethodHandle" ∧ (mY MM 163).cls ≠ "java/lang/invoke/VarHandle" ∧ (parseMethodDescriptor (mY MM 163).desc).map (fun d => d.parameters.length) = some 4 := by decide +kernel
set_option maxRecDepth 100000 in
theorem pe_dw : decode (mB MM 161) 350 = .ok (.invokestatic 38, 3) := by decide +kernel
set_option maxRecDepth 100000 in
theorem pe_rm : 9 + 1 ≤ room_1.frames ∧ 8 + (mL MM 163 + 11) + 64 * 9 ≤ room_1.locals ∧ 600002 ≤ room_1.cells ∧ 7302232 ≤ room_1.slots := by decide +kernel
set_option maxRecDepth 100000 in
set_option maxHeartbeats 4000000 in
theorem pe_call {p : Program} {l : Launch} {e : Env} {s : State} {m : MethodId} {below : List Frame} {meth : Method} {c : Code} {en ac : Nat → Nat} {D : va_G} {b0 : Nat} {L : List (Nat × Value)} {k ks : Nat} (hl : l.stackTraces = false) (hT : pe_T s.heap.size s s.heap) (hC : ev_C p s m #[Value.ref b0] meth c s.heap.size en ac D MM 161) (z z2 : Int32) (hk : k + 1 ≤ 600002) (hks : ks + 6 ≤ 7302232) (w2 : LK p l e s m below meth c en ac D b0 353 L [.int 1] ev_hE (k + 1) (ks + 6)) : LK p l e s m below meth c en ac D b0 350 L [.ref 203, .int z2, .int z, .ref 0] ev_hB k ks := by
  intro H locs ls w hl9
  obtain ⟨hx, hb, hml, hown, hts, hK, hE, hbs, hlocks, hret, hname⟩ := hC
  refine ev_sized (fun hz0 => ?_)
  have hz := ev_size w hbs hz0
  exact ev_aft (M := MM) (mi := 161) (x := 163) (rest := []) (res := (none, [])) (L := L) (q := (some (.int 1), ev_hE)) (K := KW (LK p l e s m below meth c en ac D b0) (none, [])) (fun _ _ _ _ _ _ h => KW_of h) (vx_runSW (As := [.ref 0, .int z, .int z2, .ref 203].map (ev_v s.heap.size en)) (rest := ([] : List Value).map (ev_v s.heap.size en)) (n := 4) ⟨hx, hb, hml, hown, hts⟩ (pe_l l s.heap.size en ac D hl z z2) (vx_cwSW 4 hts (gtb_all pe_w8) rfl rfl rfl pe_w9 ⟨pe_rm.1, pe_rm.2.1⟩) ⟨pe_blind, fun U hU hW => ⟨rfl, pe_Uof w hK hE hT hz hU hW⟩⟩ rfl rfl hl9.1 rfl (Nat.le_of_ble_eq_true rfl) pe_dw ⟨Nat.le_trans hk pe_rm.2.2.1, Nat.le_trans hks pe_rm.2.2.2⟩) w hz (KW_ok w2) hl9
set_option maxRecDepth 100000 in
theorem pe_g : Jvm.Cond.exactly (.string "LeftAnswers" 136) "java/lang/String" ∈ cx_fl ∧ Jvm.Cond.isRef (.static Bundle.tN "UNASSIGNED_STACK" Bundle.steD) ∈ cx_fl ∧ Jvm.Cond.isRef (.static Bundle.tN "SUPPRESSED_SENTINEL" Bundle.listD) ∈ cx_fl := by decide +kernel
set_option maxRecDepth 100000 in
theorem pe_g2 : Jvm.Cond.laysStatic Bundle.tN "UNASSIGNED_STACK" Bundle.steD ∈ lw_tbl ∧ Jvm.Cond.laysStatic Bundle.tN "SUPPRESSED_SENTINEL" Bundle.listD ∈ lw_tbl ∧ Jvm.Cond.initialized Bundle.tN ∈ lw_tbl ∧ Jvm.Cond.stringRef "LeftAnswers" 136 "no such person or question" ∈ lw_tbl ∧ Jvm.Cond.castable peE peE ∈ lw_tbl ∧ Jvm.Cond.declares (Bundle.initS peR) ∈ lw_tbl ∧ Jvm.Cond.declares (Bundle.initS "java/lang/Exception") ∈ lw_tbl ∧ Jvm.Cond.declares (Bundle.initS Bundle.tN) ∈ lw_tbl := by decide +kernel
theorem pe_T0 {p : Program} {s : State} {m : MethodId} {meth : Method} {c : Code} {b L : Nat} {xs : Nat → Int32} (C0 : lw_At p s m meth c b L xs) : pe_T s.heap.size s s.heap := by
  obtain ⟨hx, hb, hr, hml, hown, hts, hX, hbl, hlocks, hgv⟩ := C0
  have hs := flat_of_before _ hgv
  have hA : ∀ a : Nat, a < s.heap.size → ¬ ev_A s.heap.size a := fun a h q => absurd h (Nat.not_lt.mpr q)
  obtain ⟨a, c0, cell, k, q1, -⟩ := Cond.exactly_spec (hs _ pe_g.1)
  exact ⟨vx_Zqof (hts _ pe_g2.1) (hts _ pe_g2.2.2.1) (hs _ pe_g.2.1) hA, vx_Zqof (hts _ pe_g2.2.1) (hts _ pe_g2.2.2.1) (hs _ pe_g.2.2) hA, ⟨a, vk_R.of (hts _ pe_g2.2.2.2.1) q1⟩, va_Nw.of rfl (hts _ pe_g2.2.2.2.2.1), va_Nw.of rfl (hts _ pe_g2.2.2.2.2.2.1), va_Nw.of rfl (hts _ pe_g2.2.2.2.2.2.2.1), va_Nw.of rfl (hts _ pe_g2.2.2.2.2.2.2.2)⟩
set_option maxRecDepth 100000 in
set_option maxHeartbeats 8000000 in
/-- person -/
theorem lo_4 {p : Program} {l : Launch} {e : Env} {s : State} {m : MethodId} {below : List Frame} {meth : Method} {c : Code} {en ac : Nat → Nat} {D : va_G} {b0 : Nat} {k ks : Nat} {xs : Nat → Int32} (hl : l.stackTraces = false) (hT : pe_T s.heap.size s s.heap) (hC : ev_C p s m #[Value.ref b0] meth c s.heap.size en ac D MM 161) (hX : va_X b0 6 xs s s.heap) (hbl : b0 < s.heap.size) (hen : en 200 = b0) (hk : k ≤ 204) (hks : ks ≤ 10000) : LK p l e s m below meth c en ac D b0 336 [(4, .int 0), (3, .ref 203), (2, .ref 180), (1, .ref 0), (0, .retAddr 200)] [] ev_hB k ks := by
  have hR := lw_hR
  repeat (refine wk_s hR hC MM_val rfl rfl (KW_ok ?_); try dsimp only)
  refine lw_sl hC hX hbl hen rfl (by unfold vp_in; decide +kernel) ?_
  repeat (refine wk_s hR hC MM_val rfl rfl (KW_ok ?_); try dsimp only)
  refine lw_sl hC hX hbl hen rfl (by unfold vp_in; decide +kernel) ?_
  refine wk_s hR hC MM_val rfl rfl (KW_ok ?_)
  refine pe_call hl hT hC (xs 1) (xs 2) (by omega) (by omega) ?_
  repeat (refine wk_s hR hC MM_val rfl rfl (KW_ok ?_); try dsimp only)
  refine lw_sl hC hX hbl hen rfl (by unfold vp_in; decide +kernel) ?_
  repeat (refine wk_s hR hC MM_val rfl rfl (KW_ok ?_); try dsimp only)
  refine lw_sl hC hX hbl hen rfl (by unfold vp_in; decide +kernel) ?_
  refine wk_V (z := 180) (As := [.int (xs 1), .int (xs 2)]) (rest := []) hR hC MM_val rfl (by decide) (cm_person l s.heap.size en ac D (xs 1) (xs 2)) rfl rfl rfl (Nat.le_of_ble_eq_true rfl) ⟨show k + 1 + 0 ≤ 600002 by omega, show ks + 6 + 0 ≤ 7302232 by omega⟩ ?_
  simp only [Option.toList, List.cons_append, List.nil_append]
  refine wk_s hR hC MM_val rfl rfl (KW_ok ?_)
  refine wk_s hR hC MM_val rfl rfl (KW_ok ?_)
  refine wk_V (z := 180) (As := []) (rest := []) hR hC MM_val rfl (by decide) (ev_ok l s.heap.size en ac D MM_val 9 _ _ _ _ (ev_is_ok me_thr)) rfl rfl rfl (Nat.le_of_ble_eq_true rfl) ⟨show k + 1 + 0 + 0 ≤ 600002 by omega, show ks + 6 + 0 + 0 ≤ 7302232 by omega⟩ ?_
  simp only [Option.toList, List.cons_append, List.nil_append]
  refine wk_s hR hC MM_val rfl rfl (KW_ok ?_)
  refine wk_s hR hC MM_val rfl rfl (KW_ok ?_)
  refine wk_pT rfl ?_
  refine wk_s hR hC MM_val rfl rfl (KW_ok ?_)
  refine wk_s hR hC MM_val rfl rfl (KW_ok ?_)
  refine wk_pF rfl ?_
  refine wk_s hR hC MM_val rfl rfl (KW_ok ?_)
  refine wk_L [(4, .int 0), (3, .ref 203), (2, .ref 180), (1, .ref 0), (0, .retAddr 200)] (by decide +kernel) ?_
  exact lw_fin hC hX hbl hen (show k + 1 + 0 + 0 ≤ 600002 by omega) (show ks + 6 + 0 + 0 ≤ 7302232 by omega)
set_option maxRecDepth 100000 in
set_option maxHeartbeats 8000000 in
theorem lw_go {p : Program} {l : Launch} {e : Env} {s : State} {m : MethodId} {below : List Frame} {meth : Method} {c : Code} {en ac : Nat → Nat} {D : va_G} {b0 : Nat} {k ks : Nat} {xs : Nat → Int32} (hl : l.stackTraces = false) (hT : pe_T s.heap.size s s.heap) (hC : ev_C p s m #[Value.ref b0] meth c s.heap.size en ac D MM 161) (hX : va_X b0 6 xs s s.heap) (hbl : b0 < s.heap.size) (hen : en 200 = b0) (hk : k ≤ 204) (hks : ks ≤ 10000) : LK p l e s m below meth c en ac D b0 33 [(4, .int 0), (3, .ref 203), (2, .ref 180), (1, .ref 0), (0, .retAddr 200)] [] ev_hB k ks := by
  have hR := lw_hR
  repeat (refine wk_s hR hC MM_val rfl rfl (KW_ok ?_); try dsimp only)
  refine lw_sl hC hX hbl hen rfl (by unfold vp_in; decide +kernel) ?_
  repeat (refine wk_s hR hC MM_val rfl rfl (KW_ok ?_); try dsimp only)
  obtain ⟨j, hj, e⟩ := pk_andE (xs 0) (m := 63) 6 (by decide +kernel)
  refine wk_st (st' := [.int (nI j)]) (by rw [← e]; rfl) ?_
  by_cases h38 : 38 < j
  · refine wk_tsO (t := 1278) hR hC MM_val rfl (Or.inr (by rw [nI_toInt (by omega)]; omega)) rfl ?_
    exact lw_fin hC hX hbl hen (Nat.le_trans hk (by decide)) (Nat.le_trans hks (by decide))
  · match j, h38 with
    | 0, _ =>
      refine wk_s hR hC MM_val rfl rfl (KW_ok ?_)
      exact lo_0 hC hX hbl hen hk hks (op_0 _ _ _ _ _ (xs 1) (xs 2) (xs 3) (xs 4) (xs 5))
    | 1, _ =>
      refine wk_s hR hC MM_val rfl rfl (KW_ok ?_)
      exact lo_1 hC hX hbl hen hk hks (op_1 _ _ _ _ _ (xs 1))
    | 2, _ =>
      refine wk_s hR hC MM_val rfl rfl (KW_ok ?_)
      exact lo_2 hC hX hbl hen hk hks (op_2 _ _ _ _ _)
    | 3, _ =>
      refine wk_s hR hC MM_val rfl rfl (KW_ok ?_)
      exact lo_3 hC hX hbl hen hk hks (op_3 _ _ _ _ _)
    | 4, _ =>
      refine wk_s hR hC MM_val rfl rfl (KW_ok ?_)
      exact lo_4 hl hT hC hX hbl hen hk hks
    | 5, _ =>
      refine wk_s hR hC MM_val rfl rfl (KW_ok ?_)
      exact lo_5 hC hX hbl hen hk hks (op_5 _ _ _ _ _ (xs 1) (xs 2))
    | 6, _ =>
      refine wk_s hR hC MM_val rfl rfl (KW_ok ?_)
      exact lo_6 hC hX hbl hen hk hks (op_6 _ _ _ _ _ (xs 1) (xs 2))
    | 7, _ =>
      refine wk_s hR hC MM_val rfl rfl (KW_ok ?_)
      exact lo_7 hC hX hbl hen hk hks (op_7 _ _ _ _ _ (xs 1))
    | 8, _ =>
      refine wk_s hR hC MM_val rfl rfl (KW_ok ?_)
      exact lo_8 hC hX hbl hen hk hks (op_8 _ _ _ _ _ (xs 1) (xs 2) (xs 3))
    | 9, _ =>
      refine wk_s hR hC MM_val rfl rfl (KW_ok ?_)
      exact lo_9 hC hX hbl hen hk hks (op_9 _ _ _ _ _ (xs 1) (xs 2))
    | 10, _ =>
      refine wk_s hR hC MM_val rfl rfl (KW_ok ?_)
      exact lo_10 hC hX hbl hen hk hks (op_10 _ _ _ _ _ (xs 1))
    | 11, _ =>
      refine wk_s hR hC MM_val rfl rfl (KW_ok ?_)
      exact lo_11 hC hX hbl hen hk hks (op_11 _ _ _ _ _ (xs 1))
    | 12, _ =>
      refine wk_s hR hC MM_val rfl rfl (KW_ok ?_)
      exact lo_12 hC hX hbl hen hk hks (op_12 _ _ _ _ _ (xs 1))
    | 13, _ =>
      refine wk_s hR hC MM_val rfl rfl (KW_ok ?_)
      exact lo_13 hC hX hbl hen hk hks (op_13 _ _ _ _ _ (xs 1))
    | 14, _ =>
      refine wk_s hR hC MM_val rfl rfl (KW_ok ?_)
      exact lo_14 hC hX hbl hen hk hks (op_14 _ _ _ _ _)
    | 15, _ =>
      refine wk_s hR hC MM_val rfl rfl (KW_ok ?_)
      exact lo_15 hC hX hbl hen hk hks (op_15 _ _ _ _ _ (xs 1) (xs 2))
    | 16, _ =>
      refine wk_s hR hC MM_val rfl rfl (KW_ok ?_)
      exact lo_16 hC hX hbl hen hk hks (op_16 _ _ _ _ _)
    | 17, _ =>
      refine wk_s hR hC MM_val rfl rfl (KW_ok ?_)
      exact lo_17 hC hX hbl hen hk hks (op_17 _ _ _ _ _ (xs 1) (xs 2))
    | 18, _ =>
      refine wk_s hR hC MM_val rfl rfl (KW_ok ?_)
      exact lo_18 hC hX hbl hen hk hks (op_18 _ _ _ _ _)
    | 19, _ =>
      refine wk_s hR hC MM_val rfl rfl (KW_ok ?_)
      exact lo_19 hC hX hbl hen hk hks (op_19 _ _ _ _ _ (xs 1))
    | 20, _ =>
      refine wk_s hR hC MM_val rfl rfl (KW_ok ?_)
      exact lo_20 hC hX hbl hen hk hks (op_20 _ _ _ _ _)
    | 21, _ =>
      refine wk_s hR hC MM_val rfl rfl (KW_ok ?_)
      exact lo_21 hC hX hbl hen hk hks (op_21 _ _ _ _ _ (xs 1) (xs 2))
    | 22, _ =>
      refine wk_s hR hC MM_val rfl rfl (KW_ok ?_)
      exact lo_22 hC hX hbl hen hk hks (op_22 _ _ _ _ _)
    | 23, _ =>
      refine wk_s hR hC MM_val rfl rfl (KW_ok ?_)
      exact lo_23 hC hX hbl hen hk hks (op_23 _ _ _ _ _)
    | 24, _ =>
      refine wk_s hR hC MM_val rfl rfl (KW_ok ?_)
      exact lo_24 hC hX hbl hen hk hks (op_24 _ _ _ _ _)
    | 25, _ =>
      refine wk_s hR hC MM_val rfl rfl (KW_ok ?_)
      exact lo_25 hC hX hbl hen hk hks (op_25 _ _ _ _ _ (xs 1))
    | 26, _ =>
      refine wk_s hR hC MM_val rfl rfl (KW_ok ?_)
      exact lo_26 hC hX hbl hen hk hks (op_26 _ _ _ _ _ (xs 1))
    | 27, _ =>
      refine wk_s hR hC MM_val rfl rfl (KW_ok ?_)
      exact lo_27 hC hX hbl hen hk hks (op_27 _ _ _ _ _)
    | 28, _ =>
      refine wk_s hR hC MM_val rfl rfl (KW_ok ?_)
      exact lo_28 hC hX hbl hen hk hks (op_28 _ _ _ _ _ (xs 1))
    | 29, _ =>
      refine wk_s hR hC MM_val rfl rfl (KW_ok ?_)
      exact lo_29 hC hX hbl hen hk hks (op_29 _ _ _ _ _ (xs 1))
    | 30, _ =>
      refine wk_s hR hC MM_val rfl rfl (KW_ok ?_)
      exact lo_30 hC hX hbl hen hk hks (op_30 _ _ _ _ _ (xs 1) (xs 2))
    | 31, _ =>
      refine wk_s hR hC MM_val rfl rfl (KW_ok ?_)
      exact lo_31 hC hX hbl hen hk hks (op_31 _ _ _ _ _ (xs 1) (xs 2) (xs 3))
    | 32, _ =>
      refine wk_s hR hC MM_val rfl rfl (KW_ok ?_)
      exact lo_32 hC hX hbl hen hk hks (op_32 _ _ _ _ _ (xs 1))
    | 33, _ =>
      refine wk_s hR hC MM_val rfl rfl (KW_ok ?_)
      exact lo_33 hC hX hbl hen hk hks (op_33 _ _ _ _ _ (xs 1))
    | 34, _ =>
      refine wk_s hR hC MM_val rfl rfl (KW_ok ?_)
      exact lo_34 hC hX hbl hen hk hks (op_34 _ _ _ _ _)
    | 35, _ =>
      refine wk_s hR hC MM_val rfl rfl (KW_ok ?_)
      exact lo_35 hC hX hbl hen hk hks (op_35 _ _ _ _ _ (xs 1))
    | 36, _ =>
      refine wk_s hR hC MM_val rfl rfl (KW_ok ?_)
      exact lo_36 hC hX hbl hen hk hks (op_36 _ _ _ _ _ (xs 1))
    | 37, _ =>
      refine wk_s hR hC MM_val rfl rfl (KW_ok ?_)
      exact lo_37 hC hX hbl hen hk hks (op_37 _ _ _ _ _ (xs 1))
    | 38, _ =>
      refine wk_s hR hC MM_val rfl rfl (KW_ok ?_)
      exact lo_38 hC hX hbl hen hk hks (op_38 _ _ _ _ _ (xs 1))
    | j + 39, h => exact absurd h (by omega)
