/-! ===== the law ===== -/
set_option maxRecDepth 100000 in
theorem pe_g : Jvm.Cond.exactly (.string "LeftAnswers" 136) "java/lang/String" ∈ cx_fl ∧ Jvm.Cond.isRef (.static Bundle.tN "UNASSIGNED_STACK" Bundle.steD) ∈ cx_fl ∧ Jvm.Cond.isRef (.static Bundle.tN "SUPPRESSED_SENTINEL" Bundle.listD) ∈ cx_fl := by decide +kernel
set_option maxRecDepth 100000 in
theorem pe_g2 : Jvm.Cond.laysStatic Bundle.tN "UNASSIGNED_STACK" Bundle.steD ∈ lw_tbl ∧ Jvm.Cond.laysStatic Bundle.tN "SUPPRESSED_SENTINEL" Bundle.listD ∈ lw_tbl ∧ Jvm.Cond.initialized Bundle.tN ∈ lw_tbl ∧ Jvm.Cond.stringRef "LeftAnswers" 136 "no such person or question" ∈ lw_tbl ∧ Jvm.Cond.castable peE peE ∈ lw_tbl ∧ Jvm.Cond.declares (Bundle.initS peR) ∈ lw_tbl ∧ Jvm.Cond.declares (Bundle.initS "java/lang/Exception") ∈ lw_tbl ∧ Jvm.Cond.declares (Bundle.initS Bundle.tN) ∈ lw_tbl := by decide +kernel
theorem pe_T0 {p : Program} {s : State} {m : MethodId} {meth : Method} {c : Code} {b L : Nat} {xs : Nat → Int32} (C0 : lw_At p s m meth c b L xs) : pe_T s.heap.size s s.heap := by
  obtain ⟨hx, hb, hr, hml, hown, hts, hX, hbl, hlocks, hgv⟩ := C0
  have hs := flat_of_before _ hgv
  have hA : ∀ a : Nat, a < s.heap.size → ¬ ev_A s.heap.size a := fun a h q => absurd h (Nat.not_lt.mpr q)
  obtain ⟨a, c0, cell, k, q1, -⟩ := Cond.exactly_spec (hs _ pe_g.1)
  exact ⟨vx_Zqof (hts _ pe_g2.1) (hts _ pe_g2.2.2.1) (hs _ pe_g.2.1) hA, vx_Zqof (hts _ pe_g2.2.1) (hts _ pe_g2.2.2.1) (hs _ pe_g.2.2) hA, ⟨a, vk_R.of (hts _ pe_g2.2.2.2.1) q1⟩, va_Nw.of rfl (hts _ pe_g2.2.2.2.2.1), va_Nw.of rfl (hts _ pe_g2.2.2.2.2.2.1), va_Nw.of rfl (hts _ pe_g2.2.2.2.2.2.2.1), va_Nw.of rfl (hts _ pe_g2.2.2.2.2.2.2.2)⟩
theorem lw_si {Ln : Nat} (hL : Ln ≤ 4000) : (Int32.ofNat Ln - 6).toInt = (Ln : Int) - 6 := by
  have h1 : (Int32.ofNat Ln).toInt = (Ln : Int) := nI_toInt (by omega)
  rw [i32_sub (by rw [h1, show (6 : Int32).toInt = 6 from rfl]; omega) (by rw [h1, show (6 : Int32).toInt = 6 from rfl]; omega), h1]
  rfl
theorem lw_gt {n Ln : Nat} (h : Ln < n + 6) (hn : n + Ln ≤ 8000) (hL : Ln ≤ 4000 := by omega) : Int32.ofNat Ln - 6 < Int32.ofNat n := by
  refine Int32.lt_iff_toInt_lt.mpr ?_
  rw [lw_si hL, show (Int32.ofNat n).toInt = (n : Int) from nI_toInt (by omega)]
  omega
theorem lw_ngt {n Ln : Nat} (h : n + 6 ≤ Ln) (hL : Ln ≤ 4000) : ¬ Int32.ofNat Ln - 6 < Int32.ofNat n := by
  intro h2
  have h3 := Int32.lt_iff_toInt_lt.mp h2
  rw [lw_si hL, show (Int32.ofNat n).toInt = (n : Int) from nI_toInt (by omega)] at h3
  omega
set_option maxRecDepth 100000 in
set_option maxHeartbeats 4000000 in
theorem lw_go {p : Program} {l : Launch} {e : Env} {s : State} {m : MethodId} {below : List Frame} {meth : Method} {c : Code} {en ac : Nat → Nat} {D : va_G} {b0 : Nat} {n Ln k ks : Nat} {xs : Nat → Int32} {hp : List AE} (hC : ex_C p s m #[Value.ref b0] meth c s.heap.size en ac D MM 300) (hX : va_X b0 Ln xs s s.heap) (hbl : b0 < s.heap.size) (hen : en 200 = b0) (hn : n + 6 ≤ Ln) (hL : Ln ≤ 3072) (I : LIX hp) (hsT : l.stackTraces = false) (hT : pe_T s.heap.size s s.heap) (hk : k + 1 ≤ 601024) (hks : ks + 6 ≤ 7293034) (next : ∀ hd k2 ks2, LIX hd → k2 ≤ k + 1 → ks2 ≤ ks + 6 → LK p l e s m below meth c en ac D b0 1250 [(4, .int (Int32.ofNat n)), (3, .ref 203), (2, .ref 180), (1, .ref 0), (0, .retAddr 200)] [] hd k2 ks2) : LK p l e s m below meth c en ac D b0 33 [(4, .int (Int32.ofNat n)), (3, .ref 203), (2, .ref 180), (1, .ref 0), (0, .retAddr 200)] [] hp k ks := by
  have hR := lw_hR
  have hk1 : k ≤ 601024 := Nat.le_trans (Nat.le_succ k) hk
  have hks1 : ks ≤ 7293034 := Nat.le_trans (Nat.le_add_right ks 6) hks
  have nx : ∀ hd, LIX hd → LK p l e s m below meth c en ac D b0 1250 [(4, .int (Int32.ofNat n)), (3, .ref 203), (2, .ref 180), (1, .ref 0), (0, .retAddr 200)] [] hd k ks := fun hd I2 => next hd k ks I2 (Nat.le_succ k) (Nat.le_add_right ks 6)
  repeat (refine wk_s hR hC MM_val rfl rfl (KW_ok ?_); try dsimp only)
  refine lw_sl2 hC hX hbl hen rfl (show Int32.ofNat n = nI n from rfl) (lw_b0 hn) hL ?_
  repeat (refine wk_s hR hC MM_val rfl rfl (KW_ok ?_); try dsimp only)
  obtain ⟨j, hj, ej⟩ := pk_andE (xs n) (m := 63) 6 (by decide +kernel)
  refine wk_st (st' := [.int (nI j)]) (by rw [← ej]; rfl) ?_
  by_cases h38 : 38 < j
  · refine wk_tsO (t := 1250) hR hC MM_val rfl (Or.inr (by rw [nI_toInt (Nat.lt_trans hj (by decide))]; omega)) rfl ?_
    exact nx hp I
  · match j, h38 with
    | 0, _ =>
      refine wk_s hR hC MM_val rfl rfl (KW_ok ?_)
      exact lo_0 hC hX hbl hen hn hL I hk1 hks1 nx
    | 1, _ =>
      refine wk_s hR hC MM_val rfl rfl (KW_ok ?_)
      exact lo_1 hC hX hbl hen hn hL I hk1 hks1 nx
    | 2, _ =>
      refine wk_s hR hC MM_val rfl rfl (KW_ok ?_)
      exact lo_2 hC hX hbl hen hn hL I hk1 hks1 nx
    | 3, _ =>
      refine wk_s hR hC MM_val rfl rfl (KW_ok ?_)
      exact lo_3 hC hX hbl hen hn hL I hk1 hks1 nx
    | 4, _ =>
      refine wk_s hR hC MM_val rfl rfl (KW_ok ?_)
      exact lo_4 hC hX hbl hen hn hL I hsT hT hk hks next
    | 5, _ =>
      refine wk_s hR hC MM_val rfl rfl (KW_ok ?_)
      exact lo_5 hC hX hbl hen hn hL I hk1 hks1 nx
    | 6, _ =>
      refine wk_s hR hC MM_val rfl rfl (KW_ok ?_)
      exact lo_6 hC hX hbl hen hn hL I hk1 hks1 nx
    | 7, _ =>
      refine wk_s hR hC MM_val rfl rfl (KW_ok ?_)
      exact lo_7 hC hX hbl hen hn hL I hk1 hks1 nx
    | 8, _ =>
      refine wk_s hR hC MM_val rfl rfl (KW_ok ?_)
      exact lo_8 hC hX hbl hen hn hL I hk1 hks1 nx
    | 9, _ =>
      refine wk_s hR hC MM_val rfl rfl (KW_ok ?_)
      exact lo_9 hC hX hbl hen hn hL I hk1 hks1 nx
    | 10, _ =>
      refine wk_s hR hC MM_val rfl rfl (KW_ok ?_)
      exact lo_10 hC hX hbl hen hn hL I hk1 hks1 nx
    | 11, _ =>
      refine wk_s hR hC MM_val rfl rfl (KW_ok ?_)
      exact lo_11 hC hX hbl hen hn hL I hk1 hks1 nx
    | 12, _ =>
      refine wk_s hR hC MM_val rfl rfl (KW_ok ?_)
      exact lo_12 hC hX hbl hen hn hL I hk1 hks1 nx
    | 13, _ =>
      refine wk_s hR hC MM_val rfl rfl (KW_ok ?_)
      exact lo_13 hC hX hbl hen hn hL I hk1 hks1 nx
    | 14, _ =>
      refine wk_s hR hC MM_val rfl rfl (KW_ok ?_)
      exact lo_14 hC hX hbl hen hn hL I hk1 hks1 nx
    | 15, _ =>
      refine wk_s hR hC MM_val rfl rfl (KW_ok ?_)
      exact lo_15 hC hX hbl hen hn hL I hk1 hks1 nx
    | 16, _ =>
      refine wk_s hR hC MM_val rfl rfl (KW_ok ?_)
      exact lo_16 hC hX hbl hen hn hL I hk1 hks1 nx
    | 17, _ =>
      refine wk_s hR hC MM_val rfl rfl (KW_ok ?_)
      exact lo_17 hC hX hbl hen hn hL I hk1 hks1 nx
    | 18, _ =>
      refine wk_s hR hC MM_val rfl rfl (KW_ok ?_)
      exact lo_18 hC hX hbl hen hn hL I hk1 hks1 nx
    | 19, _ =>
      refine wk_s hR hC MM_val rfl rfl (KW_ok ?_)
      exact lo_19 hC hX hbl hen hn hL I hk1 hks1 nx
    | 20, _ =>
      refine wk_s hR hC MM_val rfl rfl (KW_ok ?_)
      exact lo_20 hC hX hbl hen hn hL I hk1 hks1 nx
    | 21, _ =>
      refine wk_s hR hC MM_val rfl rfl (KW_ok ?_)
      exact lo_21 hC hX hbl hen hn hL I hk1 hks1 nx
    | 22, _ =>
      refine wk_s hR hC MM_val rfl rfl (KW_ok ?_)
      exact lo_22 hC hX hbl hen hn hL I hk1 hks1 nx
    | 23, _ =>
      refine wk_s hR hC MM_val rfl rfl (KW_ok ?_)
      exact lo_23 hC hX hbl hen hn hL I hk1 hks1 nx
    | 24, _ =>
      refine wk_s hR hC MM_val rfl rfl (KW_ok ?_)
      exact lo_24 hC hX hbl hen hn hL I hk1 hks1 nx
    | 25, _ =>
      refine wk_s hR hC MM_val rfl rfl (KW_ok ?_)
      exact lo_25 hC hX hbl hen hn hL I hk1 hks1 nx
    | 26, _ =>
      refine wk_s hR hC MM_val rfl rfl (KW_ok ?_)
      exact lo_26 hC hX hbl hen hn hL I hk1 hks1 nx
    | 27, _ =>
      refine wk_s hR hC MM_val rfl rfl (KW_ok ?_)
      exact lo_27 hC hX hbl hen hn hL I hk1 hks1 nx
    | 28, _ =>
      refine wk_s hR hC MM_val rfl rfl (KW_ok ?_)
      exact lo_28 hC hX hbl hen hn hL I hk1 hks1 nx
    | 29, _ =>
      refine wk_s hR hC MM_val rfl rfl (KW_ok ?_)
      exact lo_29 hC hX hbl hen hn hL I hk1 hks1 nx
    | 30, _ =>
      refine wk_s hR hC MM_val rfl rfl (KW_ok ?_)
      exact lo_30 hC hX hbl hen hn hL I hk1 hks1 nx
    | 31, _ =>
      refine wk_s hR hC MM_val rfl rfl (KW_ok ?_)
      exact lo_31 hC hX hbl hen hn hL I hk1 hks1 nx
    | 32, _ =>
      refine wk_s hR hC MM_val rfl rfl (KW_ok ?_)
      exact lo_32 hC hX hbl hen hn hL I hk1 hks1 nx
    | 33, _ =>
      refine wk_s hR hC MM_val rfl rfl (KW_ok ?_)
      exact lo_33 hC hX hbl hen hn hL I hk1 hks1 nx
    | 34, _ =>
      refine wk_s hR hC MM_val rfl rfl (KW_ok ?_)
      exact lo_34 hC hX hbl hen hn hL I hk1 hks1 nx
    | 35, _ =>
      refine wk_s hR hC MM_val rfl rfl (KW_ok ?_)
      exact lo_35 hC hX hbl hen hn hL I hk1 hks1 nx
    | 36, _ =>
      refine wk_s hR hC MM_val rfl rfl (KW_ok ?_)
      exact lo_36 hC hX hbl hen hn hL I hk1 hks1 nx
    | 37, _ =>
      refine wk_s hR hC MM_val rfl rfl (KW_ok ?_)
      exact lo_37 hC hX hbl hen hn hL I hk1 hks1 nx
    | 38, _ =>
      refine wk_s hR hC MM_val rfl rfl (KW_ok ?_)
      exact lo_38 hC hX hbl hen hn hL I hk1 hks1 nx
    | q + 39, h => exact absurd (Nat.lt_of_lt_of_le (by decide : 38 < 39) (Nat.le_add_left 39 q)) h
set_option maxRecDepth 100000 in
set_option maxHeartbeats 4000000 in
theorem lw_loop {p : Program} {l : Launch} {e : Env} {s : State} {m : MethodId} {below : List Frame} {meth : Method} {c : Code} {en ac : Nat → Nat} {D : va_G} {b0 : Nat} {Ln : Nat} {xs : Nat → Int32} (hC : ex_C p s m #[Value.ref b0] meth c s.heap.size en ac D MM 300) (hX : va_X b0 Ln xs s s.heap) (hbl : b0 < s.heap.size) (hen : en 200 = b0) (hL : Ln ≤ 3072) (hsT : l.stackTraces = false) (hT : pe_T s.heap.size s s.heap) : ∀ (f n k ks : Nat) (hp : List AE), Ln < n + 6 * f + 6 → LIX hp → k + f ≤ 600000 → ks + 6 * f ≤ 7200000 → n ≤ 3072 → LK p l e s m below meth c en ac D b0 23 [(4, .int (Int32.ofNat n)), (3, .ref 203), (2, .ref 180), (1, .ref 0), (0, .retAddr 200)] [] hp k ks := by
  intro f
  induction f with
  | zero =>
    intro n k ks hp h1 I h2 h3 h4
    exact lw_ex hC hX hbl hen (lw_gt (by omega) (by omega)) (by omega) (by omega)
  | succ f ih =>
    intro n k ks hp h1 I h2 h3 h4
    by_cases hn : n + 6 ≤ Ln
    · have hR := lw_hR
      refine wk_s hR hC MM_val rfl rfl (KW_ok ?_)
      refine wk_s hR hC MM_val rfl rfl (KW_ok ?_)
      refine lw_sn hC hX hbl hen rfl ?_
      refine wk_s hR hC MM_val rfl rfl (KW_ok ?_)
      refine wk_s hR hC MM_val rfl rfl (KW_ok ?_)
      refine wk_s hR hC MM_val rfl rfl (KW_ok ?_)
      refine wk_cF (lw_ngt hn (by omega)) ?_
      refine lw_go hC hX hbl hen hn hL I hsT hT (by omega) (by omega) (fun hd k2 ks2 I2 a1 a2 => ?_)
      exact lw_inc hC (ih (n + 6) k2 ks2 hd (by omega) I2 (by omega) (by omega) (by omega))
    · exact lw_ex hC hX hbl hen (lw_gt (by omega) (by omega)) (by omega) (by omega)
set_option maxRecDepth 100000 in
set_option maxHeartbeats 8000000 in
theorem whole_start {p : Program} {e : Env} {s : State} {m : MethodId} {below : List Frame} {meth : Method} {c : Code} (l : Launch) (hsT : l.stackTraces = false) {b L : Nat} {xs : Nat → Int32} (hL : L ≤ 3072) (C0 : lw_At p s m meth c b L xs) : W p l e room_1 s m #[Value.ref b] below meth c s.heap [] 0 0 (lw_Z below #[Value.ref b] s) (entryFrame m ([Value.ref b] : List Value).toArray 7) := by
  obtain ⟨D, ac, en, hC, hen⟩ := cx_C C0
  have hT := pe_T0 C0
  obtain ⟨-, -, -, -, -, -, hX, hbl, -, -⟩ := C0
  have hR := lw_hR
  have key : LK p l e s m below meth c en ac D b 0 [(0, .retAddr 200)] [] [] 0 0 := by
    refine wk_s hR hC MM_val rfl rfl (KW_ok ?_)
    refine wk_s hR hC MM_val rfl rfl (KW_ok ?_)
    refine wk_I (z := 0) (As := []) (rest := [.ref 0]) hR hC MM_val rfl (by decide) (ev_ok l s.heap.size en ac D MM_val MM_abs 100 _ _ _ _ (by decide +kernel) (ev_is_ok ini_x)) rfl rfl (by decide +kernel) (by decide +kernel) ?_
    simp only [Option.toList, List.nil_append]
    refine wk_s hR hC MM_val rfl rfl (KW_ok ?_)
    refine wk_s hR hC MM_val rfl rfl (KW_ok ?_)
    refine wk_s hR hC MM_val rfl rfl (KW_ok ?_)
    refine wk_I (z := 180) (As := []) (rest := [.ref 180]) hR hC MM_val rfl (by decide) (ev_ok l s.heap.size en ac D MM_val MM_abs 100 _ _ _ _ (by decide +kernel) (ev_is_ok ini_m)) rfl rfl (by decide +kernel) (by decide +kernel) ?_
    simp only [Option.toList, List.nil_append]
    refine wk_s hR hC MM_val rfl rfl (KW_ok ?_)
    refine wk_s hR hC MM_val rfl rfl (KW_ok ?_)
    refine wk_s hR hC MM_val rfl rfl (KW_ok ?_)
    refine wk_heap ev_hB (by decide +kernel) ?_
    refine wk_s hR hC MM_val rfl rfl (KW_ok ?_)
    refine wk_s hR hC MM_val rfl rfl (KW_ok ?_)
    refine wk_s hR hC MM_val rfl rfl (KW_ok ?_)
    refine wk_L [(4, .int (Int32.ofNat 0)), (3, .ref 203), (2, .ref 180), (1, .ref 0), (0, .retAddr 200)] (by decide +kernel) ?_
    exact lw_loop hC hX hbl hen hL hsT hT 513 0 _ _ _ (by omega) hB_lix (by decide +kernel) (by decide +kernel) (by omega)
  have hl := lv_entry ([.ref b]) (n := 7) (Nat.le_of_ble_eq_true rfl)
  rw [lg_entry_eq]
  refine key _ _ _ ⟨fun k q h => by simp [ev_ws] at h, va_S.rf, rfl⟩ ?_
  show lv_has _ 7 [(0, .ref (en 200))]
  rw [hen]
  exact hl
