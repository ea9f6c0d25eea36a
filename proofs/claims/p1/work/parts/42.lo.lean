/-! ===== each call of the law, given what it answers ===== -/
set_option maxRecDepth 100000 in
set_option maxHeartbeats 4000000 in
/-- feed -/
theorem lo_0 {p : Program} {l : Launch} {e : Env} {s : State} {m : MethodId} {below : List Frame} {meth : Method} {c : Code} {en ac : Nat → Nat} {D : va_G} {b0 : Nat} {k ks : Nat} {xs : Nat → Int32} (hC : ev_C p s m #[Value.ref b0] meth c s.heap.size en ac D MM 161) (hX : va_X b0 6 xs s s.heap) (hbl : b0 < s.heap.size) (hen : en 200 = b0) (hk : k ≤ 204) (hks : ks ≤ 10000) (ho : ∃ (r : Int32) (hc hd : List AE) (fs : List Value), ev_M l s.heap.size en ac D MM 9 17 [.ref 0, .int (xs 1), .int (xs 2), .int (xs 3), .int (xs 4), .int (xs 5)] ev_hB (some (.int r), hc) ∧ ev_M l s.heap.size en ac D MM 9 112 [.ref 180, .int (xs 1), .int (xs 2), .int (xs 3), .int (xs 4), .int (xs 5)] hc (some (.int r), hd) ∧ hc[180]? = some (.inr (11, fs))) : LK p l e s m below meth c en ac D b0 212 [(4, .int 0), (3, .ref 203), (2, .ref 180), (1, .ref 0), (0, .retAddr 200)] [] ev_hB k ks := by
  have hR := lw_hR
  obtain ⟨r, hc, hd, fs, h1, h2, h3⟩ := ho
  repeat (refine wk_s hR hC MM_val rfl rfl (KW_ok ?_); try dsimp only)
  refine lw_sl hC hX hbl hen rfl (by unfold vp_in; decide +kernel) ?_
  repeat (refine wk_s hR hC MM_val rfl rfl (KW_ok ?_); try dsimp only)
  refine lw_sl hC hX hbl hen rfl (by unfold vp_in; decide +kernel) ?_
  repeat (refine wk_s hR hC MM_val rfl rfl (KW_ok ?_); try dsimp only)
  refine lw_sl hC hX hbl hen rfl (by unfold vp_in; decide +kernel) ?_
  repeat (refine wk_s hR hC MM_val rfl rfl (KW_ok ?_); try dsimp only)
  refine lw_sl hC hX hbl hen rfl (by unfold vp_in; decide +kernel) ?_
  repeat (refine wk_s hR hC MM_val rfl rfl (KW_ok ?_); try dsimp only)
  refine lw_sl hC hX hbl hen rfl (by unfold vp_in; decide +kernel) ?_
  repeat (refine wk_s hR hC MM_val rfl rfl (KW_ok ?_); try dsimp only)
  refine wk_V (z := 0) (As := [.int (xs 1), .int (xs 2), .int (xs 3), .int (xs 4), .int (xs 5)]) (rest := []) hR hC MM_val rfl (by decide) h1 rfl rfl rfl (Nat.le_of_ble_eq_true rfl) ⟨Nat.le_trans hk (by decide +kernel), Nat.le_trans hks (by decide +kernel)⟩ ?_
  simp only [Option.toList, List.cons_append, List.nil_append]
  repeat (refine wk_s hR hC MM_val rfl rfl (KW_ok ?_); try dsimp only)
  refine lw_sl hC hX hbl hen rfl (by unfold vp_in; decide +kernel) ?_
  repeat (refine wk_s hR hC MM_val rfl rfl (KW_ok ?_); try dsimp only)
  refine lw_sl hC hX hbl hen rfl (by unfold vp_in; decide +kernel) ?_
  repeat (refine wk_s hR hC MM_val rfl rfl (KW_ok ?_); try dsimp only)
  refine lw_sl hC hX hbl hen rfl (by unfold vp_in; decide +kernel) ?_
  repeat (refine wk_s hR hC MM_val rfl rfl (KW_ok ?_); try dsimp only)
  refine lw_sl hC hX hbl hen rfl (by unfold vp_in; decide +kernel) ?_
  repeat (refine wk_s hR hC MM_val rfl rfl (KW_ok ?_); try dsimp only)
  refine lw_sl hC hX hbl hen rfl (by unfold vp_in; decide +kernel) ?_
  repeat (refine wk_s hR hC MM_val rfl rfl (KW_ok ?_); try dsimp only)
  refine wk_V (z := 180) (As := [.int (xs 1), .int (xs 2), .int (xs 3), .int (xs 4), .int (xs 5)]) (rest := [.int r]) hR hC MM_val rfl (by decide) h2 h3 rfl rfl (Nat.le_of_ble_eq_true rfl) ⟨Nat.le_trans hk (by decide +kernel), Nat.le_trans hks (by decide +kernel)⟩ ?_
  simp only [Option.toList, List.cons_append, List.nil_append]
  refine wk_s hR hC MM_val rfl rfl (KW_ok ?_)
  refine wk_cT rfl ?_
  exact lw_fin hC hX hbl hen (Nat.le_trans (m := 204) hk (by decide)) (Nat.le_trans (m := 10000) hks (by decide))
set_option maxRecDepth 100000 in
set_option maxHeartbeats 4000000 in
/-- end -/
theorem lo_1 {p : Program} {l : Launch} {e : Env} {s : State} {m : MethodId} {below : List Frame} {meth : Method} {c : Code} {en ac : Nat → Nat} {D : va_G} {b0 : Nat} {k ks : Nat} {xs : Nat → Int32} (hC : ev_C p s m #[Value.ref b0] meth c s.heap.size en ac D MM 161) (hX : va_X b0 6 xs s s.heap) (hbl : b0 < s.heap.size) (hen : en 200 = b0) (hk : k ≤ 204) (hks : ks ≤ 10000) (ho : ∃ (r : Int32) (hc hd : List AE) (fs : List Value), ev_M l s.heap.size en ac D MM 9 15 [.ref 0, .int (xs 1)] ev_hB (some (.int r), hc) ∧ ev_M l s.heap.size en ac D MM 9 110 [.ref 180, .int (xs 1)] hc (some (.int r), hd) ∧ hc[180]? = some (.inr (11, fs))) : LK p l e s m below meth c en ac D b0 285 [(4, .int 0), (3, .ref 203), (2, .ref 180), (1, .ref 0), (0, .retAddr 200)] [] ev_hB k ks := by
  have hR := lw_hR
  obtain ⟨r, hc, hd, fs, h1, h2, h3⟩ := ho
  repeat (refine wk_s hR hC MM_val rfl rfl (KW_ok ?_); try dsimp only)
  refine lw_sl hC hX hbl hen rfl (by unfold vp_in; decide +kernel) ?_
  repeat (refine wk_s hR hC MM_val rfl rfl (KW_ok ?_); try dsimp only)
  refine wk_V (z := 0) (As := [.int (xs 1)]) (rest := []) hR hC MM_val rfl (by decide) h1 rfl rfl rfl (Nat.le_of_ble_eq_true rfl) ⟨Nat.le_trans hk (by decide +kernel), Nat.le_trans hks (by decide +kernel)⟩ ?_
  simp only [Option.toList, List.cons_append, List.nil_append]
  repeat (refine wk_s hR hC MM_val rfl rfl (KW_ok ?_); try dsimp only)
  refine lw_sl hC hX hbl hen rfl (by unfold vp_in; decide +kernel) ?_
  repeat (refine wk_s hR hC MM_val rfl rfl (KW_ok ?_); try dsimp only)
  refine wk_V (z := 180) (As := [.int (xs 1)]) (rest := [.int r]) hR hC MM_val rfl (by decide) h2 h3 rfl rfl (Nat.le_of_ble_eq_true rfl) ⟨Nat.le_trans hk (by decide +kernel), Nat.le_trans hks (by decide +kernel)⟩ ?_
  simp only [Option.toList, List.cons_append, List.nil_append]
  refine wk_s hR hC MM_val rfl rfl (KW_ok ?_)
  refine wk_cT rfl ?_
  exact lw_fin hC hX hbl hen (Nat.le_trans (m := 204) hk (by decide)) (Nat.le_trans (m := 10000) hks (by decide))
set_option maxRecDepth 100000 in
set_option maxHeartbeats 4000000 in
/-- duchy -/
theorem lo_2 {p : Program} {l : Launch} {e : Env} {s : State} {m : MethodId} {below : List Frame} {meth : Method} {c : Code} {en ac : Nat → Nat} {D : va_G} {b0 : Nat} {k ks : Nat} {xs : Nat → Int32} (hC : ev_C p s m #[Value.ref b0] meth c s.heap.size en ac D MM 161) (hX : va_X b0 6 xs s s.heap) (hbl : b0 < s.heap.size) (hen : en 200 = b0) (hk : k ≤ 204) (hks : ks ≤ 10000) (ho : ∃ (r : Int32) (hc hd : List AE) (fs : List Value), ev_M l s.heap.size en ac D MM 9 13 [.ref 0] ev_hB (some (.int r), hc) ∧ ev_M l s.heap.size en ac D MM 9 108 [.ref 180] hc (some (.int r), hd) ∧ hc[180]? = some (.inr (11, fs))) : LK p l e s m below meth c en ac D b0 310 [(4, .int 0), (3, .ref 203), (2, .ref 180), (1, .ref 0), (0, .retAddr 200)] [] ev_hB k ks := by
  have hR := lw_hR
  obtain ⟨r, hc, hd, fs, h1, h2, h3⟩ := ho
  repeat (refine wk_s hR hC MM_val rfl rfl (KW_ok ?_); try dsimp only)
  refine wk_V (z := 0) (As := []) (rest := []) hR hC MM_val rfl (by decide) h1 rfl rfl rfl (Nat.le_of_ble_eq_true rfl) ⟨Nat.le_trans hk (by decide +kernel), Nat.le_trans hks (by decide +kernel)⟩ ?_
  simp only [Option.toList, List.cons_append, List.nil_append]
  repeat (refine wk_s hR hC MM_val rfl rfl (KW_ok ?_); try dsimp only)
  refine wk_V (z := 180) (As := []) (rest := [.int r]) hR hC MM_val rfl (by decide) h2 h3 rfl rfl (Nat.le_of_ble_eq_true rfl) ⟨Nat.le_trans hk (by decide +kernel), Nat.le_trans hks (by decide +kernel)⟩ ?_
  simp only [Option.toList, List.cons_append, List.nil_append]
  refine wk_s hR hC MM_val rfl rfl (KW_ok ?_)
  refine wk_cT rfl ?_
  exact lw_fin hC hX hbl hen (Nat.le_trans (m := 204) hk (by decide)) (Nat.le_trans (m := 10000) hks (by decide))
set_option maxRecDepth 100000 in
set_option maxHeartbeats 4000000 in
/-- fault -/
theorem lo_3 {p : Program} {l : Launch} {e : Env} {s : State} {m : MethodId} {below : List Frame} {meth : Method} {c : Code} {en ac : Nat → Nat} {D : va_G} {b0 : Nat} {k ks : Nat} {xs : Nat → Int32} (hC : ev_C p s m #[Value.ref b0] meth c s.heap.size en ac D MM 161) (hX : va_X b0 6 xs s s.heap) (hbl : b0 < s.heap.size) (hen : en 200 = b0) (hk : k ≤ 204) (hks : ks ≤ 10000) (ho : ∃ (r : Int32) (hc hd : List AE) (fs : List Value), ev_M l s.heap.size en ac D MM 9 16 [.ref 0] ev_hB (some (.int r), hc) ∧ ev_M l s.heap.size en ac D MM 9 111 [.ref 180] hc (some (.int r), hd) ∧ hc[180]? = some (.inr (11, fs))) : LK p l e s m below meth c en ac D b0 323 [(4, .int 0), (3, .ref 203), (2, .ref 180), (1, .ref 0), (0, .retAddr 200)] [] ev_hB k ks := by
  have hR := lw_hR
  obtain ⟨r, hc, hd, fs, h1, h2, h3⟩ := ho
  repeat (refine wk_s hR hC MM_val rfl rfl (KW_ok ?_); try dsimp only)
  refine wk_V (z := 0) (As := []) (rest := []) hR hC MM_val rfl (by decide) h1 rfl rfl rfl (Nat.le_of_ble_eq_true rfl) ⟨Nat.le_trans hk (by decide +kernel), Nat.le_trans hks (by decide +kernel)⟩ ?_
  simp only [Option.toList, List.cons_append, List.nil_append]
  repeat (refine wk_s hR hC MM_val rfl rfl (KW_ok ?_); try dsimp only)
  refine wk_V (z := 180) (As := []) (rest := [.int r]) hR hC MM_val rfl (by decide) h2 h3 rfl rfl (Nat.le_of_ble_eq_true rfl) ⟨Nat.le_trans hk (by decide +kernel), Nat.le_trans hks (by decide +kernel)⟩ ?_
  simp only [Option.toList, List.cons_append, List.nil_append]
  refine wk_s hR hC MM_val rfl rfl (KW_ok ?_)
  refine wk_cT rfl ?_
  exact lw_fin hC hX hbl hen (Nat.le_trans (m := 204) hk (by decide)) (Nat.le_trans (m := 10000) hks (by decide))
set_option maxRecDepth 100000 in
set_option maxHeartbeats 4000000 in
/-- skill -/
theorem lo_5 {p : Program} {l : Launch} {e : Env} {s : State} {m : MethodId} {below : List Frame} {meth : Method} {c : Code} {en ac : Nat → Nat} {D : va_G} {b0 : Nat} {k ks : Nat} {xs : Nat → Int32} (hC : ev_C p s m #[Value.ref b0] meth c s.heap.size en ac D MM 161) (hX : va_X b0 6 xs s s.heap) (hbl : b0 < s.heap.size) (hen : en 200 = b0) (hk : k ≤ 204) (hks : ks ≤ 10000) (ho : ∃ (r : Int32) (hc hd : List AE) (fs : List Value), ev_M l s.heap.size en ac D MM 9 36 [.ref 0, .int (xs 1), .int (xs 2)] ev_hB (some (.int r), hc) ∧ ev_M l s.heap.size en ac D MM 9 148 [.ref 180, .int (xs 1), .int (xs 2)] hc (some (.int r), hd) ∧ hc[180]? = some (.inr (11, fs))) : LK p l e s m below meth c en ac D b0 404 [(4, .int 0), (3, .ref 203), (2, .ref 180), (1, .ref 0), (0, .retAddr 200)] [] ev_hB k ks := by
  have hR := lw_hR
  obtain ⟨r, hc, hd, fs, h1, h2, h3⟩ := ho
  repeat (refine wk_s hR hC MM_val rfl rfl (KW_ok ?_); try dsimp only)
  refine lw_sl hC hX hbl hen rfl (by unfold vp_in; decide +kernel) ?_
  repeat (refine wk_s hR hC MM_val rfl rfl (KW_ok ?_); try dsimp only)
  refine lw_sl hC hX hbl hen rfl (by unfold vp_in; decide +kernel) ?_
  repeat (refine wk_s hR hC MM_val rfl rfl (KW_ok ?_); try dsimp only)
  refine wk_V (z := 0) (As := [.int (xs 1), .int (xs 2)]) (rest := []) hR hC MM_val rfl (by decide) h1 rfl rfl rfl (Nat.le_of_ble_eq_true rfl) ⟨Nat.le_trans hk (by decide +kernel), Nat.le_trans hks (by decide +kernel)⟩ ?_
  simp only [Option.toList, List.cons_append, List.nil_append]
  repeat (refine wk_s hR hC MM_val rfl rfl (KW_ok ?_); try dsimp only)
  refine lw_sl hC hX hbl hen rfl (by unfold vp_in; decide +kernel) ?_
  repeat (refine wk_s hR hC MM_val rfl rfl (KW_ok ?_); try dsimp only)
  refine lw_sl hC hX hbl hen rfl (by unfold vp_in; decide +kernel) ?_
  repeat (refine wk_s hR hC MM_val rfl rfl (KW_ok ?_); try dsimp only)
  refine wk_V (z := 180) (As := [.int (xs 1), .int (xs 2)]) (rest := [.int r]) hR hC MM_val rfl (by decide) h2 h3 rfl rfl (Nat.le_of_ble_eq_true rfl) ⟨Nat.le_trans hk (by decide +kernel), Nat.le_trans hks (by decide +kernel)⟩ ?_
  simp only [Option.toList, List.cons_append, List.nil_append]
  refine wk_s hR hC MM_val rfl rfl (KW_ok ?_)
  refine wk_cT rfl ?_
  exact lw_fin hC hX hbl hen (Nat.le_trans (m := 204) hk (by decide)) (Nat.le_trans (m := 10000) hks (by decide))
set_option maxRecDepth 100000 in
set_option maxHeartbeats 4000000 in
/-- deed -/
theorem lo_6 {p : Program} {l : Launch} {e : Env} {s : State} {m : MethodId} {below : List Frame} {meth : Method} {c : Code} {en ac : Nat → Nat} {D : va_G} {b0 : Nat} {k ks : Nat} {xs : Nat → Int32} (hC : ev_C p s m #[Value.ref b0] meth c s.heap.size en ac D MM 161) (hX : va_X b0 6 xs s s.heap) (hbl : b0 < s.heap.size) (hen : en 200 = b0) (hk : k ≤ 204) (hks : ks ≤ 10000) (ho : ∃ (r : Int32) (hc hd : List AE) (fs : List Value), ev_M l s.heap.size en ac D MM 9 10 [.ref 0, .int (xs 1), .int (xs 2)] ev_hB (some (.int r), hc) ∧ ev_M l s.heap.size en ac D MM 9 105 [.ref 180, .int (xs 1), .int (xs 2)] hc (some (.int r), hd) ∧ hc[180]? = some (.inr (11, fs))) : LK p l e s m below meth c en ac D b0 441 [(4, .int 0), (3, .ref 203), (2, .ref 180), (1, .ref 0), (0, .retAddr 200)] [] ev_hB k ks := by
  have hR := lw_hR
  obtain ⟨r, hc, hd, fs, h1, h2, h3⟩ := ho
  repeat (refine wk_s hR hC MM_val rfl rfl (KW_ok ?_); try dsimp only)
  refine lw_sl hC hX hbl hen rfl (by unfold vp_in; decide +kernel) ?_
  repeat (refine wk_s hR hC MM_val rfl rfl (KW_ok ?_); try dsimp only)
  refine lw_sl hC hX hbl hen rfl (by unfold vp_in; decide +kernel) ?_
  repeat (refine wk_s hR hC MM_val rfl rfl (KW_ok ?_); try dsimp only)
  refine wk_V (z := 0) (As := [.int (xs 1), .int (xs 2)]) (rest := []) hR hC MM_val rfl (by decide) h1 rfl rfl rfl (Nat.le_of_ble_eq_true rfl) ⟨Nat.le_trans hk (by decide +kernel), Nat.le_trans hks (by decide +kernel)⟩ ?_
  simp only [Option.toList, List.cons_append, List.nil_append]
  repeat (refine wk_s hR hC MM_val rfl rfl (KW_ok ?_); try dsimp only)
  refine lw_sl hC hX hbl hen rfl (by unfold vp_in; decide +kernel) ?_
  repeat (refine wk_s hR hC MM_val rfl rfl (KW_ok ?_); try dsimp only)
  refine lw_sl hC hX hbl hen rfl (by unfold vp_in; decide +kernel) ?_
  repeat (refine wk_s hR hC MM_val rfl rfl (KW_ok ?_); try dsimp only)
  refine wk_V (z := 180) (As := [.int (xs 1), .int (xs 2)]) (rest := [.int r]) hR hC MM_val rfl (by decide) h2 h3 rfl rfl (Nat.le_of_ble_eq_true rfl) ⟨Nat.le_trans hk (by decide +kernel), Nat.le_trans hks (by decide +kernel)⟩ ?_
  simp only [Option.toList, List.cons_append, List.nil_append]
  refine wk_s hR hC MM_val rfl rfl (KW_ok ?_)
  refine wk_cT rfl ?_
  exact lw_fin hC hX hbl hen (Nat.le_trans (m := 204) hk (by decide)) (Nat.le_trans (m := 10000) hks (by decide))
set_option maxRecDepth 100000 in
set_option maxHeartbeats 4000000 in
/-- now -/
theorem lo_7 {p : Program} {l : Launch} {e : Env} {s : State} {m : MethodId} {below : List Frame} {meth : Method} {c : Code} {en ac : Nat → Nat} {D : va_G} {b0 : Nat} {k ks : Nat} {xs : Nat → Int32} (hC : ev_C p s m #[Value.ref b0] meth c s.heap.size en ac D MM 161) (hX : va_X b0 6 xs s s.heap) (hbl : b0 < s.heap.size) (hen : en 200 = b0) (hk : k ≤ 204) (hks : ks ≤ 10000) (ho : ∃ (r : Int32) (hc hd : List AE) (fs : List Value), ev_M l s.heap.size en ac D MM 9 27 [.ref 0, .int (xs 1)] ev_hB (some (.int r), hc) ∧ ev_M l s.heap.size en ac D MM 9 132 [.ref 180, .int (xs 1)] hc (some (.int r), hd) ∧ hc[180]? = some (.inr (11, fs))) : LK p l e s m below meth c en ac D b0 478 [(4, .int 0), (3, .ref 203), (2, .ref 180), (1, .ref 0), (0, .retAddr 200)] [] ev_hB k ks := by
  have hR := lw_hR
  obtain ⟨r, hc, hd, fs, h1, h2, h3⟩ := ho
  repeat (refine wk_s hR hC MM_val rfl rfl (KW_ok ?_); try dsimp only)
  refine lw_sl hC hX hbl hen rfl (by unfold vp_in; decide +kernel) ?_
  repeat (refine wk_s hR hC MM_val rfl rfl (KW_ok ?_); try dsimp only)
  refine wk_V (z := 0) (As := [.int (xs 1)]) (rest := []) hR hC MM_val rfl (by decide) h1 rfl rfl rfl (Nat.le_of_ble_eq_true rfl) ⟨Nat.le_trans hk (by decide +kernel), Nat.le_trans hks (by decide +kernel)⟩ ?_
  simp only [Option.toList, List.cons_append, List.nil_append]
  repeat (refine wk_s hR hC MM_val rfl rfl (KW_ok ?_); try dsimp only)
  refine lw_sl hC hX hbl hen rfl (by unfold vp_in; decide +kernel) ?_
  repeat (refine wk_s hR hC MM_val rfl rfl (KW_ok ?_); try dsimp only)
  refine wk_V (z := 180) (As := [.int (xs 1)]) (rest := [.int r]) hR hC MM_val rfl (by decide) h2 h3 rfl rfl (Nat.le_of_ble_eq_true rfl) ⟨Nat.le_trans hk (by decide +kernel), Nat.le_trans hks (by decide +kernel)⟩ ?_
  simp only [Option.toList, List.cons_append, List.nil_append]
  refine wk_s hR hC MM_val rfl rfl (KW_ok ?_)
  refine wk_cT rfl ?_
  exact lw_fin hC hX hbl hen (Nat.le_trans (m := 204) hk (by decide)) (Nat.le_trans (m := 10000) hks (by decide))
set_option maxRecDepth 100000 in
set_option maxHeartbeats 4000000 in
/-- does -/
theorem lo_8 {p : Program} {l : Launch} {e : Env} {s : State} {m : MethodId} {below : List Frame} {meth : Method} {c : Code} {en ac : Nat → Nat} {D : va_G} {b0 : Nat} {k ks : Nat} {xs : Nat → Int32} (hC : ev_C p s m #[Value.ref b0] meth c s.heap.size en ac D MM 161) (hX : va_X b0 6 xs s s.heap) (hbl : b0 < s.heap.size) (hen : en 200 = b0) (hk : k ≤ 204) (hks : ks ≤ 10000) (ho : ∃ (r : Int32) (hc hd : List AE) (fs : List Value), ev_M l s.heap.size en ac D MM 9 11 [.ref 0, .int (xs 1), .int (xs 2), .int (xs 3)] ev_hB (some (.int r), hc) ∧ ev_M l s.heap.size en ac D MM 9 106 [.ref 180, .int (xs 1), .int (xs 2), .int (xs 3)] hc (some (.int r), hd) ∧ hc[180]? = some (.inr (11, fs))) : LK p l e s m below meth c en ac D b0 503 [(4, .int 0), (3, .ref 203), (2, .ref 180), (1, .ref 0), (0, .retAddr 200)] [] ev_hB k ks := by
  have hR := lw_hR
  obtain ⟨r, hc, hd, fs, h1, h2, h3⟩ := ho
  repeat (refine wk_s hR hC MM_val rfl rfl (KW_ok ?_); try dsimp only)
  refine lw_sl hC hX hbl hen rfl (by unfold vp_in; decide +kernel) ?_
  repeat (refine wk_s hR hC MM_val rfl rfl (KW_ok ?_); try dsimp only)
  refine lw_sl hC hX hbl hen rfl (by unfold vp_in; decide +kernel) ?_
  repeat (refine wk_s hR hC MM_val rfl rfl (KW_ok ?_); try dsimp only)
  refine lw_sl hC hX hbl hen rfl (by unfold vp_in; decide +kernel) ?_
  repeat (refine wk_s hR hC MM_val rfl rfl (KW_ok ?_); try dsimp only)
  refine wk_V (z := 0) (As := [.int (xs 1), .int (xs 2), .int (xs 3)]) (rest := []) hR hC MM_val rfl (by decide) h1 rfl rfl rfl (Nat.le_of_ble_eq_true rfl) ⟨Nat.le_trans hk (by decide +kernel), Nat.le_trans hks (by decide +kernel)⟩ ?_
  simp only [Option.toList, List.cons_append, List.nil_append]
  repeat (refine wk_s hR hC MM_val rfl rfl (KW_ok ?_); try dsimp only)
  refine lw_sl hC hX hbl hen rfl (by unfold vp_in; decide +kernel) ?_
  repeat (refine wk_s hR hC MM_val rfl rfl (KW_ok ?_); try dsimp only)
  refine lw_sl hC hX hbl hen rfl (by unfold vp_in; decide +kernel) ?_
  repeat (refine wk_s hR hC MM_val rfl rfl (KW_ok ?_); try dsimp only)
  refine lw_sl hC hX hbl hen rfl (by unfold vp_in; decide +kernel) ?_
  repeat (refine wk_s hR hC MM_val rfl rfl (KW_ok ?_); try dsimp only)
  refine wk_V (z := 180) (As := [.int (xs 1), .int (xs 2), .int (xs 3)]) (rest := [.int r]) hR hC MM_val rfl (by decide) h2 h3 rfl rfl (Nat.le_of_ble_eq_true rfl) ⟨Nat.le_trans hk (by decide +kernel), Nat.le_trans hks (by decide +kernel)⟩ ?_
  simp only [Option.toList, List.cons_append, List.nil_append]
  refine wk_s hR hC MM_val rfl rfl (KW_ok ?_)
  refine wk_cT rfl ?_
  exact lw_fin hC hX hbl hen (Nat.le_trans (m := 204) hk (by decide)) (Nat.le_trans (m := 10000) hks (by decide))
set_option maxRecDepth 100000 in
set_option maxHeartbeats 4000000 in
/-- wed -/
theorem lo_9 {p : Program} {l : Launch} {e : Env} {s : State} {m : MethodId} {below : List Frame} {meth : Method} {c : Code} {en ac : Nat → Nat} {D : va_G} {b0 : Nat} {k ks : Nat} {xs : Nat → Int32} (hC : ev_C p s m #[Value.ref b0] meth c s.heap.size en ac D MM 161) (hX : va_X b0 6 xs s s.heap) (hbl : b0 < s.heap.size) (hen : en 200 = b0) (hk : k ≤ 204) (hks : ks ≤ 10000) (ho : ∃ (r : Int32) (hc hd : List AE) (fs : List Value), ev_M l s.heap.size en ac D MM 9 42 [.ref 0, .int (xs 1), .int (xs 2)] ev_hB (some (.int r), hc) ∧ ev_M l s.heap.size en ac D MM 9 158 [.ref 180, .int (xs 1), .int (xs 2)] hc (some (.int r), hd) ∧ hc[180]? = some (.inr (11, fs))) : LK p l e s m below meth c en ac D b0 552 [(4, .int 0), (3, .ref 203), (2, .ref 180), (1, .ref 0), (0, .retAddr 200)] [] ev_hB k ks := by
  have hR := lw_hR
  obtain ⟨r, hc, hd, fs, h1, h2, h3⟩ := ho
  repeat (refine wk_s hR hC MM_val rfl rfl (KW_ok ?_); try dsimp only)
  refine lw_sl hC hX hbl hen rfl (by unfold vp_in; decide +kernel) ?_
  repeat (refine wk_s hR hC MM_val rfl rfl (KW_ok ?_); try dsimp only)
  refine lw_sl hC hX hbl hen rfl (by unfold vp_in; decide +kernel) ?_
  repeat (refine wk_s hR hC MM_val rfl rfl (KW_ok ?_); try dsimp only)
  refine wk_V (z := 0) (As := [.int (xs 1), .int (xs 2)]) (rest := []) hR hC MM_val rfl (by decide) h1 rfl rfl rfl (Nat.le_of_ble_eq_true rfl) ⟨Nat.le_trans hk (by decide +kernel), Nat.le_trans hks (by decide +kernel)⟩ ?_
  simp only [Option.toList, List.cons_append, List.nil_append]
  repeat (refine wk_s hR hC MM_val rfl rfl (KW_ok ?_); try dsimp only)
  refine lw_sl hC hX hbl hen rfl (by unfold vp_in; decide +kernel) ?_
  repeat (refine wk_s hR hC MM_val rfl rfl (KW_ok ?_); try dsimp only)
  refine lw_sl hC hX hbl hen rfl (by unfold vp_in; decide +kernel) ?_
  repeat (refine wk_s hR hC MM_val rfl rfl (KW_ok ?_); try dsimp only)
  refine wk_V (z := 180) (As := [.int (xs 1), .int (xs 2)]) (rest := [.int r]) hR hC MM_val rfl (by decide) h2 h3 rfl rfl (Nat.le_of_ble_eq_true rfl) ⟨Nat.le_trans hk (by decide +kernel), Nat.le_trans hks (by decide +kernel)⟩ ?_
  simp only [Option.toList, List.cons_append, List.nil_append]
  refine wk_s hR hC MM_val rfl rfl (KW_ok ?_)
  refine wk_cT rfl ?_
  exact lw_fin hC hX hbl hen (Nat.le_trans (m := 204) hk (by decide)) (Nat.le_trans (m := 10000) hks (by decide))
set_option maxRecDepth 100000 in
set_option maxHeartbeats 4000000 in
/-- part -/
theorem lo_10 {p : Program} {l : Launch} {e : Env} {s : State} {m : MethodId} {below : List Frame} {meth : Method} {c : Code} {en ac : Nat → Nat} {D : va_G} {b0 : Nat} {k ks : Nat} {xs : Nat → Int32} (hC : ev_C p s m #[Value.ref b0] meth c s.heap.size en ac D MM 161) (hX : va_X b0 6 xs s s.heap) (hbl : b0 < s.heap.size) (hen : en 200 = b0) (hk : k ≤ 204) (hks : ks ≤ 10000) (ho : ∃ (r : Int32) (hc hd : List AE) (fs : List Value), ev_M l s.heap.size en ac D MM 9 29 [.ref 0, .int (xs 1)] ev_hB (some (.int r), hc) ∧ ev_M l s.heap.size en ac D MM 9 135 [.ref 180, .int (xs 1)] hc (some (.int r), hd) ∧ hc[180]? = some (.inr (11, fs))) : LK p l e s m below meth c en ac D b0 589 [(4, .int 0), (3, .ref 203), (2, .ref 180), (1, .ref 0), (0, .retAddr 200)] [] ev_hB k ks := by
  have hR := lw_hR
  obtain ⟨r, hc, hd, fs, h1, h2, h3⟩ := ho
  repeat (refine wk_s hR hC MM_val rfl rfl (KW_ok ?_); try dsimp only)
  refine lw_sl hC hX hbl hen rfl (by unfold vp_in; decide +kernel) ?_
  repeat (refine wk_s hR hC MM_val rfl rfl (KW_ok ?_); try dsimp only)
  refine wk_V (z := 0) (As := [.int (xs 1)]) (rest := []) hR hC MM_val rfl (by decide) h1 rfl rfl rfl (Nat.le_of_ble_eq_true rfl) ⟨Nat.le_trans hk (by decide +kernel), Nat.le_trans hks (by decide +kernel)⟩ ?_
  simp only [Option.toList, List.cons_append, List.nil_append]
  repeat (refine wk_s hR hC MM_val rfl rfl (KW_ok ?_); try dsimp only)
  refine lw_sl hC hX hbl hen rfl (by unfold vp_in; decide +kernel) ?_
  repeat (refine wk_s hR hC MM_val rfl rfl (KW_ok ?_); try dsimp only)
  refine wk_V (z := 180) (As := [.int (xs 1)]) (rest := [.int r]) hR hC MM_val rfl (by decide) h2 h3 rfl rfl (Nat.le_of_ble_eq_true rfl) ⟨Nat.le_trans hk (by decide +kernel), Nat.le_trans hks (by decide +kernel)⟩ ?_
  simp only [Option.toList, List.cons_append, List.nil_append]
  refine wk_s hR hC MM_val rfl rfl (KW_ok ?_)
  refine wk_cT rfl ?_
  exact lw_fin hC hX hbl hen (Nat.le_trans (m := 204) hk (by decide)) (Nat.le_trans (m := 10000) hks (by decide))
set_option maxRecDepth 100000 in
set_option maxHeartbeats 4000000 in
/-- glove -/
theorem lo_11 {p : Program} {l : Launch} {e : Env} {s : State} {m : MethodId} {below : List Frame} {meth : Method} {c : Code} {en ac : Nat → Nat} {D : va_G} {b0 : Nat} {k ks : Nat} {xs : Nat → Int32} (hC : ev_C p s m #[Value.ref b0] meth c s.heap.size en ac D MM 161) (hX : va_X b0 6 xs s s.heap) (hbl : b0 < s.heap.size) (hen : en 200 = b0) (hk : k ≤ 204) (hks : ks ≤ 10000) (ho : ∃ (r : Int32) (hc hd : List AE) (fs : List Value), ev_M l s.heap.size en ac D MM 9 20 [.ref 0, .int (xs 1)] ev_hB (some (.int r), hc) ∧ ev_M l s.heap.size en ac D MM 9 115 [.ref 180, .int (xs 1)] hc (some (.int r), hd) ∧ hc[180]? = some (.inr (11, fs))) : LK p l e s m below meth c en ac D b0 614 [(4, .int 0), (3, .ref 203), (2, .ref 180), (1, .ref 0), (0, .retAddr 200)] [] ev_hB k ks := by
  have hR := lw_hR
  obtain ⟨r, hc, hd, fs, h1, h2, h3⟩ := ho
  repeat (refine wk_s hR hC MM_val rfl rfl (KW_ok ?_); try dsimp only)
  refine lw_sl hC hX hbl hen rfl (by unfold vp_in; decide +kernel) ?_
  repeat (refine wk_s hR hC MM_val rfl rfl (KW_ok ?_); try dsimp only)
  refine wk_V (z := 0) (As := [.int (xs 1)]) (rest := []) hR hC MM_val rfl (by decide) h1 rfl rfl rfl (Nat.le_of_ble_eq_true rfl) ⟨Nat.le_trans hk (by decide +kernel), Nat.le_trans hks (by decide +kernel)⟩ ?_
  simp only [Option.toList, List.cons_append, List.nil_append]
  repeat (refine wk_s hR hC MM_val rfl rfl (KW_ok ?_); try dsimp only)
  refine lw_sl hC hX hbl hen rfl (by unfold vp_in; decide +kernel) ?_
  repeat (refine wk_s hR hC MM_val rfl rfl (KW_ok ?_); try dsimp only)
  refine wk_V (z := 180) (As := [.int (xs 1)]) (rest := [.int r]) hR hC MM_val rfl (by decide) h2 h3 rfl rfl (Nat.le_of_ble_eq_true rfl) ⟨Nat.le_trans hk (by decide +kernel), Nat.le_trans hks (by decide +kernel)⟩ ?_
  simp only [Option.toList, List.cons_append, List.nil_append]
  refine wk_s hR hC MM_val rfl rfl (KW_ok ?_)
  refine wk_cT rfl ?_
  exact lw_fin hC hX hbl hen (Nat.le_trans (m := 204) hk (by decide)) (Nat.le_trans (m := 10000) hks (by decide))
set_option maxRecDepth 100000 in
set_option maxHeartbeats 4000000 in
/-- bare -/
theorem lo_12 {p : Program} {l : Launch} {e : Env} {s : State} {m : MethodId} {below : List Frame} {meth : Method} {c : Code} {en ac : Nat → Nat} {D : va_G} {b0 : Nat} {k ks : Nat} {xs : Nat → Int32} (hC : ev_C p s m #[Value.ref b0] meth c s.heap.size en ac D MM 161) (hX : va_X b0 6 xs s s.heap) (hbl : b0 < s.heap.size) (hen : en 200 = b0) (hk : k ≤ 204) (hks : ks ≤ 10000) (ho : ∃ (r : Int32) (hc hd : List AE) (fs : List Value), ev_M l s.heap.size en ac D MM 9 2 [.ref 0, .int (xs 1)] ev_hB (some (.int r), hc) ∧ ev_M l s.heap.size en ac D MM 9 95 [.ref 180, .int (xs 1)] hc (some (.int r), hd) ∧ hc[180]? = some (.inr (11, fs))) : LK p l e s m below meth c en ac D b0 639 [(4, .int 0), (3, .ref 203), (2, .ref 180), (1, .ref 0), (0, .retAddr 200)] [] ev_hB k ks := by
  have hR := lw_hR
  obtain ⟨r, hc, hd, fs, h1, h2, h3⟩ := ho
  repeat (refine wk_s hR hC MM_val rfl rfl (KW_ok ?_); try dsimp only)
  refine lw_sl hC hX hbl hen rfl (by unfold vp_in; decide +kernel) ?_
  repeat (refine wk_s hR hC MM_val rfl rfl (KW_ok ?_); try dsimp only)
  refine wk_V (z := 0) (As := [.int (xs 1)]) (rest := []) hR hC MM_val rfl (by decide) h1 rfl rfl rfl (Nat.le_of_ble_eq_true rfl) ⟨Nat.le_trans hk (by decide +kernel), Nat.le_trans hks (by decide +kernel)⟩ ?_
  simp only [Option.toList, List.cons_append, List.nil_append]
  repeat (refine wk_s hR hC MM_val rfl rfl (KW_ok ?_); try dsimp only)
  refine lw_sl hC hX hbl hen rfl (by unfold vp_in; decide +kernel) ?_
  repeat (refine wk_s hR hC MM_val rfl rfl (KW_ok ?_); try dsimp only)
  refine wk_V (z := 180) (As := [.int (xs 1)]) (rest := [.int r]) hR hC MM_val rfl (by decide) h2 h3 rfl rfl (Nat.le_of_ble_eq_true rfl) ⟨Nat.le_trans hk (by decide +kernel), Nat.le_trans hks (by decide +kernel)⟩ ?_
  simp only [Option.toList, List.cons_append, List.nil_append]
  refine wk_s hR hC MM_val rfl rfl (KW_ok ?_)
  refine wk_cT rfl ?_
  exact lw_fin hC hX hbl hen (Nat.le_trans (m := 204) hk (by decide)) (Nat.le_trans (m := 10000) hks (by decide))
set_option maxRecDepth 100000 in
set_option maxHeartbeats 4000000 in
/-- days -/
theorem lo_13 {p : Program} {l : Launch} {e : Env} {s : State} {m : MethodId} {below : List Frame} {meth : Method} {c : Code} {en ac : Nat → Nat} {D : va_G} {b0 : Nat} {k ks : Nat} {xs : Nat → Int32} (hC : ev_C p s m #[Value.ref b0] meth c s.heap.size en ac D MM 161) (hX : va_X b0 6 xs s s.heap) (hbl : b0 < s.heap.size) (hen : en 200 = b0) (hk : k ≤ 204) (hks : ks ≤ 10000) (ho : ∃ (r : Int32) (hc hd : List AE) (fs : List Value), ev_M l s.heap.size en ac D MM 9 9 [.ref 0, .int (xs 1)] ev_hB (some (.int r), hc) ∧ ev_M l s.heap.size en ac D MM 9 104 [.ref 180, .int (xs 1)] hc (some (.int r), hd) ∧ hc[180]? = some (.inr (11, fs))) : LK p l e s m below meth c en ac D b0 664 [(4, .int 0), (3, .ref 203), (2, .ref 180), (1, .ref 0), (0, .retAddr 200)] [] ev_hB k ks := by
  have hR := lw_hR
  obtain ⟨r, hc, hd, fs, h1, h2, h3⟩ := ho
  repeat (refine wk_s hR hC MM_val rfl rfl (KW_ok ?_); try dsimp only)
  refine lw_sl hC hX hbl hen rfl (by unfold vp_in; decide +kernel) ?_
  repeat (refine wk_s hR hC MM_val rfl rfl (KW_ok ?_); try dsimp only)
  refine wk_V (z := 0) (As := [.int (xs 1)]) (rest := []) hR hC MM_val rfl (by decide) h1 rfl rfl rfl (Nat.le_of_ble_eq_true rfl) ⟨Nat.le_trans hk (by decide +kernel), Nat.le_trans hks (by decide +kernel)⟩ ?_
  simp only [Option.toList, List.cons_append, List.nil_append]
  repeat (refine wk_s hR hC MM_val rfl rfl (KW_ok ?_); try dsimp only)
  refine lw_sl hC hX hbl hen rfl (by unfold vp_in; decide +kernel) ?_
  repeat (refine wk_s hR hC MM_val rfl rfl (KW_ok ?_); try dsimp only)
  refine wk_V (z := 180) (As := [.int (xs 1)]) (rest := [.int r]) hR hC MM_val rfl (by decide) h2 h3 rfl rfl (Nat.le_of_ble_eq_true rfl) ⟨Nat.le_trans hk (by decide +kernel), Nat.le_trans hks (by decide +kernel)⟩ ?_
  simp only [Option.toList, List.cons_append, List.nil_append]
  refine wk_s hR hC MM_val rfl rfl (KW_ok ?_)
  refine wk_cT rfl ?_
  exact lw_fin hC hX hbl hen (Nat.le_trans (m := 204) hk (by decide)) (Nat.le_trans (m := 10000) hks (by decide))
set_option maxRecDepth 100000 in
set_option maxHeartbeats 4000000 in
/-- undo -/
theorem lo_14 {p : Program} {l : Launch} {e : Env} {s : State} {m : MethodId} {below : List Frame} {meth : Method} {c : Code} {en ac : Nat → Nat} {D : va_G} {b0 : Nat} {k ks : Nat} {xs : Nat → Int32} (hC : ev_C p s m #[Value.ref b0] meth c s.heap.size en ac D MM 161) (hX : va_X b0 6 xs s s.heap) (hbl : b0 < s.heap.size) (hen : en 200 = b0) (hk : k ≤ 204) (hks : ks ≤ 10000) (ho : ∃ (r : Int32) (hc hd : List AE) (fs : List Value), ev_M l s.heap.size en ac D MM 9 41 [.ref 0] ev_hB (some (.int r), hc) ∧ ev_M l s.heap.size en ac D MM 9 157 [.ref 180] hc (some (.int r), hd) ∧ hc[180]? = some (.inr (11, fs))) : LK p l e s m below meth c en ac D b0 689 [(4, .int 0), (3, .ref 203), (2, .ref 180), (1, .ref 0), (0, .retAddr 200)] [] ev_hB k ks := by
  have hR := lw_hR
  obtain ⟨r, hc, hd, fs, h1, h2, h3⟩ := ho
  repeat (refine wk_s hR hC MM_val rfl rfl (KW_ok ?_); try dsimp only)
  refine wk_V (z := 0) (As := []) (rest := []) hR hC MM_val rfl (by decide) h1 rfl rfl rfl (Nat.le_of_ble_eq_true rfl) ⟨Nat.le_trans hk (by decide +kernel), Nat.le_trans hks (by decide +kernel)⟩ ?_
  simp only [Option.toList, List.cons_append, List.nil_append]
  repeat (refine wk_s hR hC MM_val rfl rfl (KW_ok ?_); try dsimp only)
  refine wk_V (z := 180) (As := []) (rest := [.int r]) hR hC MM_val rfl (by decide) h2 h3 rfl rfl (Nat.le_of_ble_eq_true rfl) ⟨Nat.le_trans hk (by decide +kernel), Nat.le_trans hks (by decide +kernel)⟩ ?_
  simp only [Option.toList, List.cons_append, List.nil_append]
  refine wk_s hR hC MM_val rfl rfl (KW_ok ?_)
  refine wk_cT rfl ?_
  exact lw_fin hC hX hbl hen (Nat.le_trans (m := 204) hk (by decide)) (Nat.le_trans (m := 10000) hks (by decide))
set_option maxRecDepth 100000 in
set_option maxHeartbeats 4000000 in
/-- able -/
theorem lo_15 {p : Program} {l : Launch} {e : Env} {s : State} {m : MethodId} {below : List Frame} {meth : Method} {c : Code} {en ac : Nat → Nat} {D : va_G} {b0 : Nat} {k ks : Nat} {xs : Nat → Int32} (hC : ev_C p s m #[Value.ref b0] meth c s.heap.size en ac D MM 161) (hX : va_X b0 6 xs s s.heap) (hbl : b0 < s.heap.size) (hen : en 200 = b0) (hk : k ≤ 204) (hks : ks ≤ 10000) (ho : ∃ (r : Int32) (hc hd : List AE) (fs : List Value), ev_M l s.heap.size en ac D MM 9 1 [.ref 0, .int (xs 1), .int (xs 2)] ev_hB (some (.int r), hc) ∧ ev_M l s.heap.size en ac D MM 9 92 [.ref 180, .int (xs 1), .int (xs 2)] hc (some (.int r), hd) ∧ hc[180]? = some (.inr (11, fs))) : LK p l e s m below meth c en ac D b0 702 [(4, .int 0), (3, .ref 203), (2, .ref 180), (1, .ref 0), (0, .retAddr 200)] [] ev_hB k ks := by
  have hR := lw_hR
  obtain ⟨r, hc, hd, fs, h1, h2, h3⟩ := ho
  repeat (refine wk_s hR hC MM_val rfl rfl (KW_ok ?_); try dsimp only)
  refine lw_sl hC hX hbl hen rfl (by unfold vp_in; decide +kernel) ?_
  repeat (refine wk_s hR hC MM_val rfl rfl (KW_ok ?_); try dsimp only)
  refine lw_sl hC hX hbl hen rfl (by unfold vp_in; decide +kernel) ?_
  repeat (refine wk_s hR hC MM_val rfl rfl (KW_ok ?_); try dsimp only)
  refine wk_V (z := 0) (As := [.int (xs 1), .int (xs 2)]) (rest := []) hR hC MM_val rfl (by decide) h1 rfl rfl rfl (Nat.le_of_ble_eq_true rfl) ⟨Nat.le_trans hk (by decide +kernel), Nat.le_trans hks (by decide +kernel)⟩ ?_
  simp only [Option.toList, List.cons_append, List.nil_append]
  repeat (refine wk_s hR hC MM_val rfl rfl (KW_ok ?_); try dsimp only)
  refine lw_sl hC hX hbl hen rfl (by unfold vp_in; decide +kernel) ?_
  repeat (refine wk_s hR hC MM_val rfl rfl (KW_ok ?_); try dsimp only)
  refine lw_sl hC hX hbl hen rfl (by unfold vp_in; decide +kernel) ?_
  repeat (refine wk_s hR hC MM_val rfl rfl (KW_ok ?_); try dsimp only)
  refine wk_V (z := 180) (As := [.int (xs 1), .int (xs 2)]) (rest := [.int r]) hR hC MM_val rfl (by decide) h2 h3 rfl rfl (Nat.le_of_ble_eq_true rfl) ⟨Nat.le_trans hk (by decide +kernel), Nat.le_trans hks (by decide +kernel)⟩ ?_
  simp only [Option.toList, List.cons_append, List.nil_append]
  refine wk_s hR hC MM_val rfl rfl (KW_ok ?_)
  refine wk_cT rfl ?_
  exact lw_fin hC hX hbl hen (Nat.le_trans (m := 204) hk (by decide)) (Nat.le_trans (m := 10000) hks (by decide))
set_option maxRecDepth 100000 in
set_option maxHeartbeats 4000000 in
/-- parted -/
theorem lo_16 {p : Program} {l : Launch} {e : Env} {s : State} {m : MethodId} {below : List Frame} {meth : Method} {c : Code} {en ac : Nat → Nat} {D : va_G} {b0 : Nat} {k ks : Nat} {xs : Nat → Int32} (hC : ev_C p s m #[Value.ref b0] meth c s.heap.size en ac D MM 161) (hX : va_X b0 6 xs s s.heap) (hbl : b0 < s.heap.size) (hen : en 200 = b0) (hk : k ≤ 204) (hks : ks ≤ 10000) (ho : ∃ (r : Int32) (hc hd : List AE) (fs : List Value), ev_M l s.heap.size en ac D MM 9 30 [.ref 0] ev_hB (some (.int r), hc) ∧ ev_M l s.heap.size en ac D MM 9 136 [.ref 180] hc (some (.int r), hd) ∧ hc[180]? = some (.inr (11, fs))) : LK p l e s m below meth c en ac D b0 739 [(4, .int 0), (3, .ref 203), (2, .ref 180), (1, .ref 0), (0, .retAddr 200)] [] ev_hB k ks := by
  have hR := lw_hR
  obtain ⟨r, hc, hd, fs, h1, h2, h3⟩ := ho
  repeat (refine wk_s hR hC MM_val rfl rfl (KW_ok ?_); try dsimp only)
  refine wk_V (z := 0) (As := []) (rest := []) hR hC MM_val rfl (by decide) h1 rfl rfl rfl (Nat.le_of_ble_eq_true rfl) ⟨Nat.le_trans hk (by decide +kernel), Nat.le_trans hks (by decide +kernel)⟩ ?_
  simp only [Option.toList, List.cons_append, List.nil_append]
  repeat (refine wk_s hR hC MM_val rfl rfl (KW_ok ?_); try dsimp only)
  refine wk_V (z := 180) (As := []) (rest := [.int r]) hR hC MM_val rfl (by decide) h2 h3 rfl rfl (Nat.le_of_ble_eq_true rfl) ⟨Nat.le_trans hk (by decide +kernel), Nat.le_trans hks (by decide +kernel)⟩ ?_
  simp only [Option.toList, List.cons_append, List.nil_append]
  refine wk_s hR hC MM_val rfl rfl (KW_ok ?_)
  refine wk_cT rfl ?_
  exact lw_fin hC hX hbl hen (Nat.le_trans (m := 204) hk (by decide)) (Nat.le_trans (m := 10000) hks (by decide))
set_option maxRecDepth 100000 in
set_option maxHeartbeats 4000000 in
/-- partedAt -/
theorem lo_17 {p : Program} {l : Launch} {e : Env} {s : State} {m : MethodId} {below : List Frame} {meth : Method} {c : Code} {en ac : Nat → Nat} {D : va_G} {b0 : Nat} {k ks : Nat} {xs : Nat → Int32} (hC : ev_C p s m #[Value.ref b0] meth c s.heap.size en ac D MM 161) (hX : va_X b0 6 xs s s.heap) (hbl : b0 < s.heap.size) (hen : en 200 = b0) (hk : k ≤ 204) (hks : ks ≤ 10000) (ho : ∃ (r : Int32) (hc hd : List AE) (fs : List Value), ev_M l s.heap.size en ac D MM 9 31 [.ref 0, .int (xs 1), .int (xs 2)] ev_hB (some (.int r), hc) ∧ ev_M l s.heap.size en ac D MM 9 137 [.ref 180, .int (xs 1), .int (xs 2)] hc (some (.int r), hd) ∧ hc[180]? = some (.inr (11, fs))) : LK p l e s m below meth c en ac D b0 752 [(4, .int 0), (3, .ref 203), (2, .ref 180), (1, .ref 0), (0, .retAddr 200)] [] ev_hB k ks := by
  have hR := lw_hR
  obtain ⟨r, hc, hd, fs, h1, h2, h3⟩ := ho
  repeat (refine wk_s hR hC MM_val rfl rfl (KW_ok ?_); try dsimp only)
  refine lw_sl hC hX hbl hen rfl (by unfold vp_in; decide +kernel) ?_
  repeat (refine wk_s hR hC MM_val rfl rfl (KW_ok ?_); try dsimp only)
  refine lw_sl hC hX hbl hen rfl (by unfold vp_in; decide +kernel) ?_
  repeat (refine wk_s hR hC MM_val rfl rfl (KW_ok ?_); try dsimp only)
  refine wk_V (z := 0) (As := [.int (xs 1), .int (xs 2)]) (rest := []) hR hC MM_val rfl (by decide) h1 rfl rfl rfl (Nat.le_of_ble_eq_true rfl) ⟨Nat.le_trans hk (by decide +kernel), Nat.le_trans hks (by decide +kernel)⟩ ?_
  simp only [Option.toList, List.cons_append, List.nil_append]
  repeat (refine wk_s hR hC MM_val rfl rfl (KW_ok ?_); try dsimp only)
  refine lw_sl hC hX hbl hen rfl (by unfold vp_in; decide +kernel) ?_
  repeat (refine wk_s hR hC MM_val rfl rfl (KW_ok ?_); try dsimp only)
  refine lw_sl hC hX hbl hen rfl (by unfold vp_in; decide +kernel) ?_
  repeat (refine wk_s hR hC MM_val rfl rfl (KW_ok ?_); try dsimp only)
  refine wk_V (z := 180) (As := [.int (xs 1), .int (xs 2)]) (rest := [.int r]) hR hC MM_val rfl (by decide) h2 h3 rfl rfl (Nat.le_of_ble_eq_true rfl) ⟨Nat.le_trans hk (by decide +kernel), Nat.le_trans hks (by decide +kernel)⟩ ?_
  simp only [Option.toList, List.cons_append, List.nil_append]
  refine wk_s hR hC MM_val rfl rfl (KW_ok ?_)
  refine wk_cT rfl ?_
  exact lw_fin hC hX hbl hen (Nat.le_trans (m := 204) hk (by decide)) (Nat.le_trans (m := 10000) hks (by decide))
set_option maxRecDepth 100000 in
set_option maxHeartbeats 4000000 in
/-- fits -/
theorem lo_18 {p : Program} {l : Launch} {e : Env} {s : State} {m : MethodId} {below : List Frame} {meth : Method} {c : Code} {en ac : Nat → Nat} {D : va_G} {b0 : Nat} {k ks : Nat} {xs : Nat → Int32} (hC : ev_C p s m #[Value.ref b0] meth c s.heap.size en ac D MM 161) (hX : va_X b0 6 xs s s.heap) (hbl : b0 < s.heap.size) (hen : en 200 = b0) (hk : k ≤ 204) (hks : ks ≤ 10000) (ho : ∃ (r : Int32) (hc hd : List AE) (fs : List Value), ev_M l s.heap.size en ac D MM 9 19 [.ref 0] ev_hB (some (.int r), hc) ∧ ev_M l s.heap.size en ac D MM 9 114 [.ref 180] hc (some (.int r), hd) ∧ hc[180]? = some (.inr (11, fs))) : LK p l e s m below meth c en ac D b0 789 [(4, .int 0), (3, .ref 203), (2, .ref 180), (1, .ref 0), (0, .retAddr 200)] [] ev_hB k ks := by
  have hR := lw_hR
  obtain ⟨r, hc, hd, fs, h1, h2, h3⟩ := ho
  repeat (refine wk_s hR hC MM_val rfl rfl (KW_ok ?_); try dsimp only)
  refine wk_V (z := 0) (As := []) (rest := []) hR hC MM_val rfl (by decide) h1 rfl rfl rfl (Nat.le_of_ble_eq_true rfl) ⟨Nat.le_trans hk (by decide +kernel), Nat.le_trans hks (by decide +kernel)⟩ ?_
  simp only [Option.toList, List.cons_append, List.nil_append]
  repeat (refine wk_s hR hC MM_val rfl rfl (KW_ok ?_); try dsimp only)
  refine wk_V (z := 180) (As := []) (rest := [.int r]) hR hC MM_val rfl (by decide) h2 h3 rfl rfl (Nat.le_of_ble_eq_true rfl) ⟨Nat.le_trans hk (by decide +kernel), Nat.le_trans hks (by decide +kernel)⟩ ?_
  simp only [Option.toList, List.cons_append, List.nil_append]
  refine wk_s hR hC MM_val rfl rfl (KW_ok ?_)
  refine wk_cT rfl ?_
  exact lw_fin hC hX hbl hen (Nat.le_trans (m := 204) hk (by decide)) (Nat.le_trans (m := 10000) hks (by decide))
set_option maxRecDepth 100000 in
set_option maxHeartbeats 4000000 in
/-- fitAt -/
theorem lo_19 {p : Program} {l : Launch} {e : Env} {s : State} {m : MethodId} {below : List Frame} {meth : Method} {c : Code} {en ac : Nat → Nat} {D : va_G} {b0 : Nat} {k ks : Nat} {xs : Nat → Int32} (hC : ev_C p s m #[Value.ref b0] meth c s.heap.size en ac D MM 161) (hX : va_X b0 6 xs s s.heap) (hbl : b0 < s.heap.size) (hen : en 200 = b0) (hk : k ≤ 204) (hks : ks ≤ 10000) (ho : ∃ (r : Int32) (hc hd : List AE) (fs : List Value), ev_M l s.heap.size en ac D MM 9 18 [.ref 0, .int (xs 1)] ev_hB (some (.int r), hc) ∧ ev_M l s.heap.size en ac D MM 9 113 [.ref 180, .int (xs 1)] hc (some (.int r), hd) ∧ hc[180]? = some (.inr (11, fs))) : LK p l e s m below meth c en ac D b0 802 [(4, .int 0), (3, .ref 203), (2, .ref 180), (1, .ref 0), (0, .retAddr 200)] [] ev_hB k ks := by
  have hR := lw_hR
  obtain ⟨r, hc, hd, fs, h1, h2, h3⟩ := ho
  repeat (refine wk_s hR hC MM_val rfl rfl (KW_ok ?_); try dsimp only)
  refine lw_sl hC hX hbl hen rfl (by unfold vp_in; decide +kernel) ?_
  repeat (refine wk_s hR hC MM_val rfl rfl (KW_ok ?_); try dsimp only)
  refine wk_V (z := 0) (As := [.int (xs 1)]) (rest := []) hR hC MM_val rfl (by decide) h1 rfl rfl rfl (Nat.le_of_ble_eq_true rfl) ⟨Nat.le_trans hk (by decide +kernel), Nat.le_trans hks (by decide +kernel)⟩ ?_
  simp only [Option.toList, List.cons_append, List.nil_append]
  repeat (refine wk_s hR hC MM_val rfl rfl (KW_ok ?_); try dsimp only)
  refine lw_sl hC hX hbl hen rfl (by unfold vp_in; decide +kernel) ?_
  repeat (refine wk_s hR hC MM_val rfl rfl (KW_ok ?_); try dsimp only)
  refine wk_V (z := 180) (As := [.int (xs 1)]) (rest := [.int r]) hR hC MM_val rfl (by decide) h2 h3 rfl rfl (Nat.le_of_ble_eq_true rfl) ⟨Nat.le_trans hk (by decide +kernel), Nat.le_trans hks (by decide +kernel)⟩ ?_
  simp only [Option.toList, List.cons_append, List.nil_append]
  refine wk_s hR hC MM_val rfl rfl (KW_ok ?_)
  refine wk_cT rfl ?_
  exact lw_fin hC hX hbl hen (Nat.le_trans (m := 204) hk (by decide)) (Nat.le_trans (m := 10000) hks (by decide))
set_option maxRecDepth 100000 in
set_option maxHeartbeats 4000000 in
/-- test -/
theorem lo_20 {p : Program} {l : Launch} {e : Env} {s : State} {m : MethodId} {below : List Frame} {meth : Method} {c : Code} {en ac : Nat → Nat} {D : va_G} {b0 : Nat} {k ks : Nat} {xs : Nat → Int32} (hC : ev_C p s m #[Value.ref b0] meth c s.heap.size en ac D MM 161) (hX : va_X b0 6 xs s s.heap) (hbl : b0 < s.heap.size) (hen : en 200 = b0) (hk : k ≤ 204) (hks : ks ≤ 10000) (ho : ∃ (r : Int32) (hc hd : List AE) (fs : List Value), ev_M l s.heap.size en ac D MM 9 39 [.ref 0] ev_hB (some (.int r), hc) ∧ ev_M l s.heap.size en ac D MM 9 155 [.ref 180] hc (some (.int r), hd) ∧ hc[180]? = some (.inr (11, fs))) : LK p l e s m below meth c en ac D b0 827 [(4, .int 0), (3, .ref 203), (2, .ref 180), (1, .ref 0), (0, .retAddr 200)] [] ev_hB k ks := by
  have hR := lw_hR
  obtain ⟨r, hc, hd, fs, h1, h2, h3⟩ := ho
  repeat (refine wk_s hR hC MM_val rfl rfl (KW_ok ?_); try dsimp only)
  refine wk_V (z := 0) (As := []) (rest := []) hR hC MM_val rfl (by decide) h1 rfl rfl rfl (Nat.le_of_ble_eq_true rfl) ⟨Nat.le_trans hk (by decide +kernel), Nat.le_trans hks (by decide +kernel)⟩ ?_
  simp only [Option.toList, List.cons_append, List.nil_append]
  repeat (refine wk_s hR hC MM_val rfl rfl (KW_ok ?_); try dsimp only)
  refine wk_V (z := 180) (As := []) (rest := [.int r]) hR hC MM_val rfl (by decide) h2 h3 rfl rfl (Nat.le_of_ble_eq_true rfl) ⟨Nat.le_trans hk (by decide +kernel), Nat.le_trans hks (by decide +kernel)⟩ ?_
  simp only [Option.toList, List.cons_append, List.nil_append]
  refine wk_s hR hC MM_val rfl rfl (KW_ok ?_)
  refine wk_cT rfl ?_
  exact lw_fin hC hX hbl hen (Nat.le_trans (m := 204) hk (by decide)) (Nat.le_trans (m := 10000) hks (by decide))
set_option maxRecDepth 100000 in
set_option maxHeartbeats 4000000 in
/-- hears -/
theorem lo_21 {p : Program} {l : Launch} {e : Env} {s : State} {m : MethodId} {below : List Frame} {meth : Method} {c : Code} {en ac : Nat → Nat} {D : va_G} {b0 : Nat} {k ks : Nat} {xs : Nat → Int32} (hC : ev_C p s m #[Value.ref b0] meth c s.heap.size en ac D MM 161) (hX : va_X b0 6 xs s s.heap) (hbl : b0 < s.heap.size) (hen : en 200 = b0) (hk : k ≤ 204) (hks : ks ≤ 10000) (ho : ∃ (r : Int32) (hc hd : List AE) (fs : List Value), ev_M l s.heap.size en ac D MM 9 23 [.ref 0, .int (xs 1), .int (xs 2)] ev_hB (some (.int r), hc) ∧ ev_M l s.heap.size en ac D MM 9 120 [.ref 180, .int (xs 1), .int (xs 2)] hc (some (.int r), hd) ∧ hc[180]? = some (.inr (11, fs))) : LK p l e s m below meth c en ac D b0 840 [(4, .int 0), (3, .ref 203), (2, .ref 180), (1, .ref 0), (0, .retAddr 200)] [] ev_hB k ks := by
  have hR := lw_hR
  obtain ⟨r, hc, hd, fs, h1, h2, h3⟩ := ho
  repeat (refine wk_s hR hC MM_val rfl rfl (KW_ok ?_); try dsimp only)
  refine lw_sl hC hX hbl hen rfl (by unfold vp_in; decide +kernel) ?_
  repeat (refine wk_s hR hC MM_val rfl rfl (KW_ok ?_); try dsimp only)
  refine lw_sl hC hX hbl hen rfl (by unfold vp_in; decide +kernel) ?_
  repeat (refine wk_s hR hC MM_val rfl rfl (KW_ok ?_); try dsimp only)
  refine wk_V (z := 0) (As := [.int (xs 1), .int (xs 2)]) (rest := []) hR hC MM_val rfl (by decide) h1 rfl rfl rfl (Nat.le_of_ble_eq_true rfl) ⟨Nat.le_trans hk (by decide +kernel), Nat.le_trans hks (by decide +kernel)⟩ ?_
  simp only [Option.toList, List.cons_append, List.nil_append]
  repeat (refine wk_s hR hC MM_val rfl rfl (KW_ok ?_); try dsimp only)
  refine lw_sl hC hX hbl hen rfl (by unfold vp_in; decide +kernel) ?_
  repeat (refine wk_s hR hC MM_val rfl rfl (KW_ok ?_); try dsimp only)
  refine lw_sl hC hX hbl hen rfl (by unfold vp_in; decide +kernel) ?_
  repeat (refine wk_s hR hC MM_val rfl rfl (KW_ok ?_); try dsimp only)
  refine wk_V (z := 180) (As := [.int (xs 1), .int (xs 2)]) (rest := [.int r]) hR hC MM_val rfl (by decide) h2 h3 rfl rfl (Nat.le_of_ble_eq_true rfl) ⟨Nat.le_trans hk (by decide +kernel), Nat.le_trans hks (by decide +kernel)⟩ ?_
  simp only [Option.toList, List.cons_append, List.nil_append]
  refine wk_s hR hC MM_val rfl rfl (KW_ok ?_)
  refine wk_cT rfl ?_
  exact lw_fin hC hX hbl hen (Nat.le_trans (m := 204) hk (by decide)) (Nat.le_trans (m := 10000) hks (by decide))
set_option maxRecDepth 100000 in
set_option maxHeartbeats 4000000 in
/-- guards -/
theorem lo_22 {p : Program} {l : Launch} {e : Env} {s : State} {m : MethodId} {below : List Frame} {meth : Method} {c : Code} {en ac : Nat → Nat} {D : va_G} {b0 : Nat} {k ks : Nat} {xs : Nat → Int32} (hC : ev_C p s m #[Value.ref b0] meth c s.heap.size en ac D MM 161) (hX : va_X b0 6 xs s s.heap) (hbl : b0 < s.heap.size) (hen : en 200 = b0) (hk : k ≤ 204) (hks : ks ≤ 10000) (ho : ∃ (r : Int32) (hc hd : List AE) (fs : List Value), ev_M l s.heap.size en ac D MM 9 22 [.ref 0] ev_hB (some (.int r), hc) ∧ ev_M l s.heap.size en ac D MM 9 118 [.ref 180] hc (some (.int r), hd) ∧ hc[180]? = some (.inr (11, fs))) : LK p l e s m below meth c en ac D b0 877 [(4, .int 0), (3, .ref 203), (2, .ref 180), (1, .ref 0), (0, .retAddr 200)] [] ev_hB k ks := by
  have hR := lw_hR
  obtain ⟨r, hc, hd, fs, h1, h2, h3⟩ := ho
  repeat (refine wk_s hR hC MM_val rfl rfl (KW_ok ?_); try dsimp only)
  refine wk_V (z := 0) (As := []) (rest := []) hR hC MM_val rfl (by decide) h1 rfl rfl rfl (Nat.le_of_ble_eq_true rfl) ⟨Nat.le_trans hk (by decide +kernel), Nat.le_trans hks (by decide +kernel)⟩ ?_
  simp only [Option.toList, List.cons_append, List.nil_append]
  repeat (refine wk_s hR hC MM_val rfl rfl (KW_ok ?_); try dsimp only)
  refine wk_V (z := 180) (As := []) (rest := [.int r]) hR hC MM_val rfl (by decide) h2 h3 rfl rfl (Nat.le_of_ble_eq_true rfl) ⟨Nat.le_trans hk (by decide +kernel), Nat.le_trans hks (by decide +kernel)⟩ ?_
  simp only [Option.toList, List.cons_append, List.nil_append]
  refine wk_s hR hC MM_val rfl rfl (KW_ok ?_)
  refine wk_cT rfl ?_
  exact lw_fin hC hX hbl hen (Nat.le_trans (m := 204) hk (by decide)) (Nat.le_trans (m := 10000) hks (by decide))
set_option maxRecDepth 100000 in
set_option maxHeartbeats 4000000 in
/-- guarding -/
theorem lo_23 {p : Program} {l : Launch} {e : Env} {s : State} {m : MethodId} {below : List Frame} {meth : Method} {c : Code} {en ac : Nat → Nat} {D : va_G} {b0 : Nat} {k ks : Nat} {xs : Nat → Int32} (hC : ev_C p s m #[Value.ref b0] meth c s.heap.size en ac D MM 161) (hX : va_X b0 6 xs s s.heap) (hbl : b0 < s.heap.size) (hen : en 200 = b0) (hk : k ≤ 204) (hks : ks ≤ 10000) (ho : ∃ (r : Int32) (hc hd : List AE) (fs : List Value), ev_M l s.heap.size en ac D MM 9 21 [.ref 0] ev_hB (some (.int r), hc) ∧ ev_M l s.heap.size en ac D MM 9 117 [.ref 180] hc (some (.int r), hd) ∧ hc[180]? = some (.inr (11, fs))) : LK p l e s m below meth c en ac D b0 890 [(4, .int 0), (3, .ref 203), (2, .ref 180), (1, .ref 0), (0, .retAddr 200)] [] ev_hB k ks := by
  have hR := lw_hR
  obtain ⟨r, hc, hd, fs, h1, h2, h3⟩ := ho
  repeat (refine wk_s hR hC MM_val rfl rfl (KW_ok ?_); try dsimp only)
  refine wk_V (z := 0) (As := []) (rest := []) hR hC MM_val rfl (by decide) h1 rfl rfl rfl (Nat.le_of_ble_eq_true rfl) ⟨Nat.le_trans hk (by decide +kernel), Nat.le_trans hks (by decide +kernel)⟩ ?_
  simp only [Option.toList, List.cons_append, List.nil_append]
  repeat (refine wk_s hR hC MM_val rfl rfl (KW_ok ?_); try dsimp only)
  refine wk_V (z := 180) (As := []) (rest := [.int r]) hR hC MM_val rfl (by decide) h2 h3 rfl rfl (Nat.le_of_ble_eq_true rfl) ⟨Nat.le_trans hk (by decide +kernel), Nat.le_trans hks (by decide +kernel)⟩ ?_
  simp only [Option.toList, List.cons_append, List.nil_append]
  refine wk_s hR hC MM_val rfl rfl (KW_ok ?_)
  refine wk_cT rfl ?_
  exact lw_fin hC hX hbl hen (Nat.le_trans (m := 204) hk (by decide)) (Nat.le_trans (m := 10000) hks (by decide))
set_option maxRecDepth 100000 in
set_option maxHeartbeats 4000000 in
/-- best -/
theorem lo_24 {p : Program} {l : Launch} {e : Env} {s : State} {m : MethodId} {below : List Frame} {meth : Method} {c : Code} {en ac : Nat → Nat} {D : va_G} {b0 : Nat} {k ks : Nat} {xs : Nat → Int32} (hC : ev_C p s m #[Value.ref b0] meth c s.heap.size en ac D MM 161) (hX : va_X b0 6 xs s s.heap) (hbl : b0 < s.heap.size) (hen : en 200 = b0) (hk : k ≤ 204) (hks : ks ≤ 10000) (ho : ∃ (r : Int32) (hc hd : List AE) (fs : List Value), ev_M l s.heap.size en ac D MM 9 3 [.ref 0] ev_hB (some (.int r), hc) ∧ ev_M l s.heap.size en ac D MM 9 97 [.ref 180] hc (some (.int r), hd) ∧ hc[180]? = some (.inr (11, fs))) : LK p l e s m below meth c en ac D b0 903 [(4, .int 0), (3, .ref 203), (2, .ref 180), (1, .ref 0), (0, .retAddr 200)] [] ev_hB k ks := by
  have hR := lw_hR
  obtain ⟨r, hc, hd, fs, h1, h2, h3⟩ := ho
  repeat (refine wk_s hR hC MM_val rfl rfl (KW_ok ?_); try dsimp only)
  refine wk_V (z := 0) (As := []) (rest := []) hR hC MM_val rfl (by decide) h1 rfl rfl rfl (Nat.le_of_ble_eq_true rfl) ⟨Nat.le_trans hk (by decide +kernel), Nat.le_trans hks (by decide +kernel)⟩ ?_
  simp only [Option.toList, List.cons_append, List.nil_append]
  repeat (refine wk_s hR hC MM_val rfl rfl (KW_ok ?_); try dsimp only)
  refine wk_V (z := 180) (As := []) (rest := [.int r]) hR hC MM_val rfl (by decide) h2 h3 rfl rfl (Nat.le_of_ble_eq_true rfl) ⟨Nat.le_trans hk (by decide +kernel), Nat.le_trans hks (by decide +kernel)⟩ ?_
  simp only [Option.toList, List.cons_append, List.nil_append]
  refine wk_s hR hC MM_val rfl rfl (KW_ok ?_)
  refine wk_cT rfl ?_
  exact lw_fin hC hX hbl hen (Nat.le_trans (m := 204) hk (by decide)) (Nat.le_trans (m := 10000) hks (by decide))
set_option maxRecDepth 100000 in
set_option maxHeartbeats 4000000 in
/-- bestOf -/
theorem lo_25 {p : Program} {l : Launch} {e : Env} {s : State} {m : MethodId} {below : List Frame} {meth : Method} {c : Code} {en ac : Nat → Nat} {D : va_G} {b0 : Nat} {k ks : Nat} {xs : Nat → Int32} (hC : ev_C p s m #[Value.ref b0] meth c s.heap.size en ac D MM 161) (hX : va_X b0 6 xs s s.heap) (hbl : b0 < s.heap.size) (hen : en 200 = b0) (hk : k ≤ 204) (hks : ks ≤ 10000) (ho : ∃ (r : Int32) (hc hd : List AE) (fs : List Value), ev_M l s.heap.size en ac D MM 9 4 [.ref 0, .int (xs 1)] ev_hB (some (.int r), hc) ∧ ev_M l s.heap.size en ac D MM 9 98 [.ref 180, .int (xs 1)] hc (some (.int r), hd) ∧ hc[180]? = some (.inr (11, fs))) : LK p l e s m below meth c en ac D b0 916 [(4, .int 0), (3, .ref 203), (2, .ref 180), (1, .ref 0), (0, .retAddr 200)] [] ev_hB k ks := by
  have hR := lw_hR
  obtain ⟨r, hc, hd, fs, h1, h2, h3⟩ := ho
  repeat (refine wk_s hR hC MM_val rfl rfl (KW_ok ?_); try dsimp only)
  refine lw_sl hC hX hbl hen rfl (by unfold vp_in; decide +kernel) ?_
  repeat (refine wk_s hR hC MM_val rfl rfl (KW_ok ?_); try dsimp only)
  refine wk_V (z := 0) (As := [.int (xs 1)]) (rest := []) hR hC MM_val rfl (by decide) h1 rfl rfl rfl (Nat.le_of_ble_eq_true rfl) ⟨Nat.le_trans hk (by decide +kernel), Nat.le_trans hks (by decide +kernel)⟩ ?_
  simp only [Option.toList, List.cons_append, List.nil_append]
  repeat (refine wk_s hR hC MM_val rfl rfl (KW_ok ?_); try dsimp only)
  refine lw_sl hC hX hbl hen rfl (by unfold vp_in; decide +kernel) ?_
  repeat (refine wk_s hR hC MM_val rfl rfl (KW_ok ?_); try dsimp only)
  refine wk_V (z := 180) (As := [.int (xs 1)]) (rest := [.int r]) hR hC MM_val rfl (by decide) h2 h3 rfl rfl (Nat.le_of_ble_eq_true rfl) ⟨Nat.le_trans hk (by decide +kernel), Nat.le_trans hks (by decide +kernel)⟩ ?_
  simp only [Option.toList, List.cons_append, List.nil_append]
  refine wk_s hR hC MM_val rfl rfl (KW_ok ?_)
  refine wk_cT rfl ?_
  exact lw_fin hC hX hbl hen (Nat.le_trans (m := 204) hk (by decide)) (Nat.le_trans (m := 10000) hks (by decide))
set_option maxRecDepth 100000 in
set_option maxHeartbeats 4000000 in
/-- earns -/
theorem lo_26 {p : Program} {l : Launch} {e : Env} {s : State} {m : MethodId} {below : List Frame} {meth : Method} {c : Code} {en ac : Nat → Nat} {D : va_G} {b0 : Nat} {k ks : Nat} {xs : Nat → Int32} (hC : ev_C p s m #[Value.ref b0] meth c s.heap.size en ac D MM 161) (hX : va_X b0 6 xs s s.heap) (hbl : b0 < s.heap.size) (hen : en 200 = b0) (hk : k ≤ 204) (hks : ks ≤ 10000) (ho : ∃ (r : Int32) (hc hd : List AE) (fs : List Value), ev_M l s.heap.size en ac D MM 9 14 [.ref 0, .int (xs 1)] ev_hB (some (.int r), hc) ∧ ev_M l s.heap.size en ac D MM 9 109 [.ref 180, .int (xs 1)] hc (some (.int r), hd) ∧ hc[180]? = some (.inr (11, fs))) : LK p l e s m below meth c en ac D b0 941 [(4, .int 0), (3, .ref 203), (2, .ref 180), (1, .ref 0), (0, .retAddr 200)] [] ev_hB k ks := by
  have hR := lw_hR
  obtain ⟨r, hc, hd, fs, h1, h2, h3⟩ := ho
  repeat (refine wk_s hR hC MM_val rfl rfl (KW_ok ?_); try dsimp only)
  refine lw_sl hC hX hbl hen rfl (by unfold vp_in; decide +kernel) ?_
  repeat (refine wk_s hR hC MM_val rfl rfl (KW_ok ?_); try dsimp only)
  refine wk_V (z := 0) (As := [.int (xs 1)]) (rest := []) hR hC MM_val rfl (by decide) h1 rfl rfl rfl (Nat.le_of_ble_eq_true rfl) ⟨Nat.le_trans hk (by decide +kernel), Nat.le_trans hks (by decide +kernel)⟩ ?_
  simp only [Option.toList, List.cons_append, List.nil_append]
  repeat (refine wk_s hR hC MM_val rfl rfl (KW_ok ?_); try dsimp only)
  refine lw_sl hC hX hbl hen rfl (by unfold vp_in; decide +kernel) ?_
  repeat (refine wk_s hR hC MM_val rfl rfl (KW_ok ?_); try dsimp only)
  refine wk_V (z := 180) (As := [.int (xs 1)]) (rest := [.int r]) hR hC MM_val rfl (by decide) h2 h3 rfl rfl (Nat.le_of_ble_eq_true rfl) ⟨Nat.le_trans hk (by decide +kernel), Nat.le_trans hks (by decide +kernel)⟩ ?_
  simp only [Option.toList, List.cons_append, List.nil_append]
  refine wk_s hR hC MM_val rfl rfl (KW_ok ?_)
  refine wk_cT rfl ?_
  exact lw_fin hC hX hbl hen (Nat.le_trans (m := 204) hk (by decide)) (Nat.le_trans (m := 10000) hks (by decide))
set_option maxRecDepth 100000 in
set_option maxHeartbeats 4000000 in
/-- richest -/
theorem lo_27 {p : Program} {l : Launch} {e : Env} {s : State} {m : MethodId} {below : List Frame} {meth : Method} {c : Code} {en ac : Nat → Nat} {D : va_G} {b0 : Nat} {k ks : Nat} {xs : Nat → Int32} (hC : ev_C p s m #[Value.ref b0] meth c s.heap.size en ac D MM 161) (hX : va_X b0 6 xs s s.heap) (hbl : b0 < s.heap.size) (hen : en 200 = b0) (hk : k ≤ 204) (hks : ks ≤ 10000) (ho : ∃ (r : Int32) (hc hd : List AE) (fs : List Value), ev_M l s.heap.size en ac D MM 9 33 [.ref 0] ev_hB (some (.int r), hc) ∧ ev_M l s.heap.size en ac D MM 9 145 [.ref 180] hc (some (.int r), hd) ∧ hc[180]? = some (.inr (11, fs))) : LK p l e s m below meth c en ac D b0 966 [(4, .int 0), (3, .ref 203), (2, .ref 180), (1, .ref 0), (0, .retAddr 200)] [] ev_hB k ks := by
  have hR := lw_hR
  obtain ⟨r, hc, hd, fs, h1, h2, h3⟩ := ho
  repeat (refine wk_s hR hC MM_val rfl rfl (KW_ok ?_); try dsimp only)
  refine wk_V (z := 0) (As := []) (rest := []) hR hC MM_val rfl (by decide) h1 rfl rfl rfl (Nat.le_of_ble_eq_true rfl) ⟨Nat.le_trans hk (by decide +kernel), Nat.le_trans hks (by decide +kernel)⟩ ?_
  simp only [Option.toList, List.cons_append, List.nil_append]
  repeat (refine wk_s hR hC MM_val rfl rfl (KW_ok ?_); try dsimp only)
  refine wk_V (z := 180) (As := []) (rest := [.int r]) hR hC MM_val rfl (by decide) h2 h3 rfl rfl (Nat.le_of_ble_eq_true rfl) ⟨Nat.le_trans hk (by decide +kernel), Nat.le_trans hks (by decide +kernel)⟩ ?_
  simp only [Option.toList, List.cons_append, List.nil_append]
  refine wk_s hR hC MM_val rfl rfl (KW_ok ?_)
  refine wk_cT rfl ?_
  exact lw_fin hC hX hbl hen (Nat.le_trans (m := 204) hk (by decide)) (Nat.le_trans (m := 10000) hks (by decide))
set_option maxRecDepth 100000 in
set_option maxHeartbeats 4000000 in
/-- slip -/
theorem lo_28 {p : Program} {l : Launch} {e : Env} {s : State} {m : MethodId} {below : List Frame} {meth : Method} {c : Code} {en ac : Nat → Nat} {D : va_G} {b0 : Nat} {k ks : Nat} {xs : Nat → Int32} (hC : ev_C p s m #[Value.ref b0] meth c s.heap.size en ac D MM 161) (hX : va_X b0 6 xs s s.heap) (hbl : b0 < s.heap.size) (hen : en 200 = b0) (hk : k ≤ 204) (hks : ks ≤ 10000) (ho : ∃ (r : Int32) (hc hd : List AE) (fs : List Value), ev_M l s.heap.size en ac D MM 9 37 [.ref 0, .int (xs 1)] ev_hB (some (.int r), hc) ∧ ev_M l s.heap.size en ac D MM 9 149 [.ref 180, .int (xs 1)] hc (some (.int r), hd) ∧ hc[180]? = some (.inr (11, fs))) : LK p l e s m below meth c en ac D b0 979 [(4, .int 0), (3, .ref 203), (2, .ref 180), (1, .ref 0), (0, .retAddr 200)] [] ev_hB k ks := by
  have hR := lw_hR
  obtain ⟨r, hc, hd, fs, h1, h2, h3⟩ := ho
  repeat (refine wk_s hR hC MM_val rfl rfl (KW_ok ?_); try dsimp only)
  refine lw_sl hC hX hbl hen rfl (by unfold vp_in; decide +kernel) ?_
  repeat (refine wk_s hR hC MM_val rfl rfl (KW_ok ?_); try dsimp only)
  refine wk_V (z := 0) (As := [.int (xs 1)]) (rest := []) hR hC MM_val rfl (by decide) h1 rfl rfl rfl (Nat.le_of_ble_eq_true rfl) ⟨Nat.le_trans hk (by decide +kernel), Nat.le_trans hks (by decide +kernel)⟩ ?_
  simp only [Option.toList, List.cons_append, List.nil_append]
  repeat (refine wk_s hR hC MM_val rfl rfl (KW_ok ?_); try dsimp only)
  refine lw_sl hC hX hbl hen rfl (by unfold vp_in; decide +kernel) ?_
  repeat (refine wk_s hR hC MM_val rfl rfl (KW_ok ?_); try dsimp only)
  refine wk_V (z := 180) (As := [.int (xs 1)]) (rest := [.int r]) hR hC MM_val rfl (by decide) h2 h3 rfl rfl (Nat.le_of_ble_eq_true rfl) ⟨Nat.le_trans hk (by decide +kernel), Nat.le_trans hks (by decide +kernel)⟩ ?_
  simp only [Option.toList, List.cons_append, List.nil_append]
  refine wk_s hR hC MM_val rfl rfl (KW_ok ?_)
  refine wk_cT rfl ?_
  exact lw_fin hC hX hbl hen (Nat.le_trans (m := 204) hk (by decide)) (Nat.le_trans (m := 10000) hks (by decide))
set_option maxRecDepth 100000 in
set_option maxHeartbeats 4000000 in
/-- byteAt -/
theorem lo_29 {p : Program} {l : Launch} {e : Env} {s : State} {m : MethodId} {below : List Frame} {meth : Method} {c : Code} {en ac : Nat → Nat} {D : va_G} {b0 : Nat} {k ks : Nat} {xs : Nat → Int32} (hC : ev_C p s m #[Value.ref b0] meth c s.heap.size en ac D MM 161) (hX : va_X b0 6 xs s s.heap) (hbl : b0 < s.heap.size) (hen : en 200 = b0) (hk : k ≤ 204) (hks : ks ≤ 10000) (ho : ∃ (r : Int32) (hc hd : List AE) (fs : List Value), ev_M l s.heap.size en ac D MM 9 7 [.ref 0, .int (xs 1)] ev_hB (some (.int r), hc) ∧ ev_M l s.heap.size en ac D MM 9 101 [.ref 180, .int (xs 1)] hc (some (.int r), hd) ∧ hc[180]? = some (.inr (11, fs))) : LK p l e s m below meth c en ac D b0 1004 [(4, .int 0), (3, .ref 203), (2, .ref 180), (1, .ref 0), (0, .retAddr 200)] [] ev_hB k ks := by
  have hR := lw_hR
  obtain ⟨r, hc, hd, fs, h1, h2, h3⟩ := ho
  repeat (refine wk_s hR hC MM_val rfl rfl (KW_ok ?_); try dsimp only)
  refine lw_sl hC hX hbl hen rfl (by unfold vp_in; decide +kernel) ?_
  repeat (refine wk_s hR hC MM_val rfl rfl (KW_ok ?_); try dsimp only)
  refine wk_V (z := 0) (As := [.int (xs 1)]) (rest := []) hR hC MM_val rfl (by decide) h1 rfl rfl rfl (Nat.le_of_ble_eq_true rfl) ⟨Nat.le_trans hk (by decide +kernel), Nat.le_trans hks (by decide +kernel)⟩ ?_
  simp only [Option.toList, List.cons_append, List.nil_append]
  repeat (refine wk_s hR hC MM_val rfl rfl (KW_ok ?_); try dsimp only)
  refine lw_sl hC hX hbl hen rfl (by unfold vp_in; decide +kernel) ?_
  repeat (refine wk_s hR hC MM_val rfl rfl (KW_ok ?_); try dsimp only)
  refine wk_V (z := 180) (As := [.int (xs 1)]) (rest := [.int r]) hR hC MM_val rfl (by decide) h2 h3 rfl rfl (Nat.le_of_ble_eq_true rfl) ⟨Nat.le_trans hk (by decide +kernel), Nat.le_trans hks (by decide +kernel)⟩ ?_
  simp only [Option.toList, List.cons_append, List.nil_append]
  refine wk_s hR hC MM_val rfl rfl (KW_ok ?_)
  refine wk_cT rfl ?_
  exact lw_fin hC hX hbl hen (Nat.le_trans (m := 204) hk (by decide)) (Nat.le_trans (m := 10000) hks (by decide))
set_option maxRecDepth 100000 in
set_option maxHeartbeats 4000000 in
/-- drawn -/
theorem lo_30 {p : Program} {l : Launch} {e : Env} {s : State} {m : MethodId} {below : List Frame} {meth : Method} {c : Code} {en ac : Nat → Nat} {D : va_G} {b0 : Nat} {k ks : Nat} {xs : Nat → Int32} (hC : ev_C p s m #[Value.ref b0] meth c s.heap.size en ac D MM 161) (hX : va_X b0 6 xs s s.heap) (hbl : b0 < s.heap.size) (hen : en 200 = b0) (hk : k ≤ 204) (hks : ks ≤ 10000) (ho : ∃ (r : Int32) (hc hd : List AE) (fs : List Value), ev_M l s.heap.size en ac D MM 9 12 [.ref 0, .int (xs 1), .int (xs 2)] ev_hB (some (.int r), hc) ∧ ev_M l s.heap.size en ac D MM 9 107 [.ref 180, .int (xs 1), .int (xs 2)] hc (some (.int r), hd) ∧ hc[180]? = some (.inr (11, fs))) : LK p l e s m below meth c en ac D b0 1029 [(4, .int 0), (3, .ref 203), (2, .ref 180), (1, .ref 0), (0, .retAddr 200)] [] ev_hB k ks := by
  have hR := lw_hR
  obtain ⟨r, hc, hd, fs, h1, h2, h3⟩ := ho
  repeat (refine wk_s hR hC MM_val rfl rfl (KW_ok ?_); try dsimp only)
  refine lw_sl hC hX hbl hen rfl (by unfold vp_in; decide +kernel) ?_
  repeat (refine wk_s hR hC MM_val rfl rfl (KW_ok ?_); try dsimp only)
  refine lw_sl hC hX hbl hen rfl (by unfold vp_in; decide +kernel) ?_
  repeat (refine wk_s hR hC MM_val rfl rfl (KW_ok ?_); try dsimp only)
  refine wk_V (z := 0) (As := [.int (xs 1), .int (xs 2)]) (rest := []) hR hC MM_val rfl (by decide) h1 rfl rfl rfl (Nat.le_of_ble_eq_true rfl) ⟨Nat.le_trans hk (by decide +kernel), Nat.le_trans hks (by decide +kernel)⟩ ?_
  simp only [Option.toList, List.cons_append, List.nil_append]
  repeat (refine wk_s hR hC MM_val rfl rfl (KW_ok ?_); try dsimp only)
  refine lw_sl hC hX hbl hen rfl (by unfold vp_in; decide +kernel) ?_
  repeat (refine wk_s hR hC MM_val rfl rfl (KW_ok ?_); try dsimp only)
  refine lw_sl hC hX hbl hen rfl (by unfold vp_in; decide +kernel) ?_
  repeat (refine wk_s hR hC MM_val rfl rfl (KW_ok ?_); try dsimp only)
  refine wk_V (z := 180) (As := [.int (xs 1), .int (xs 2)]) (rest := [.int r]) hR hC MM_val rfl (by decide) h2 h3 rfl rfl (Nat.le_of_ble_eq_true rfl) ⟨Nat.le_trans hk (by decide +kernel), Nat.le_trans hks (by decide +kernel)⟩ ?_
  simp only [Option.toList, List.cons_append, List.nil_append]
  refine wk_s hR hC MM_val rfl rfl (KW_ok ?_)
  refine wk_cT rfl ?_
  exact lw_fin hC hX hbl hen (Nat.le_trans (m := 204) hk (by decide)) (Nat.le_trans (m := 10000) hks (by decide))
set_option maxRecDepth 100000 in
set_option maxHeartbeats 4000000 in
/-- odds -/
theorem lo_31 {p : Program} {l : Launch} {e : Env} {s : State} {m : MethodId} {below : List Frame} {meth : Method} {c : Code} {en ac : Nat → Nat} {D : va_G} {b0 : Nat} {k ks : Nat} {xs : Nat → Int32} (hC : ev_C p s m #[Value.ref b0] meth c s.heap.size en ac D MM 161) (hX : va_X b0 6 xs s s.heap) (hbl : b0 < s.heap.size) (hen : en 200 = b0) (hk : k ≤ 204) (hks : ks ≤ 10000) (ho : ∃ (r : Int32) (hc hd : List AE) (fs : List Value), ev_M l s.heap.size en ac D MM 9 28 [.ref 0, .int (xs 1), .int (xs 2), .int (xs 3)] ev_hB (some (.int r), hc) ∧ ev_M l s.heap.size en ac D MM 9 133 [.ref 180, .int (xs 1), .int (xs 2), .int (xs 3)] hc (some (.int r), hd) ∧ hc[180]? = some (.inr (11, fs))) : LK p l e s m below meth c en ac D b0 1066 [(4, .int 0), (3, .ref 203), (2, .ref 180), (1, .ref 0), (0, .retAddr 200)] [] ev_hB k ks := by
  have hR := lw_hR
  obtain ⟨r, hc, hd, fs, h1, h2, h3⟩ := ho
  repeat (refine wk_s hR hC MM_val rfl rfl (KW_ok ?_); try dsimp only)
  refine lw_sl hC hX hbl hen rfl (by unfold vp_in; decide +kernel) ?_
  repeat (refine wk_s hR hC MM_val rfl rfl (KW_ok ?_); try dsimp only)
  refine lw_sl hC hX hbl hen rfl (by unfold vp_in; decide +kernel) ?_
  repeat (refine wk_s hR hC MM_val rfl rfl (KW_ok ?_); try dsimp only)
  refine lw_sl hC hX hbl hen rfl (by unfold vp_in; decide +kernel) ?_
  repeat (refine wk_s hR hC MM_val rfl rfl (KW_ok ?_); try dsimp only)
  refine wk_V (z := 0) (As := [.int (xs 1), .int (xs 2), .int (xs 3)]) (rest := []) hR hC MM_val rfl (by decide) h1 rfl rfl rfl (Nat.le_of_ble_eq_true rfl) ⟨Nat.le_trans hk (by decide +kernel), Nat.le_trans hks (by decide +kernel)⟩ ?_
  simp only [Option.toList, List.cons_append, List.nil_append]
  repeat (refine wk_s hR hC MM_val rfl rfl (KW_ok ?_); try dsimp only)
  refine lw_sl hC hX hbl hen rfl (by unfold vp_in; decide +kernel) ?_
  repeat (refine wk_s hR hC MM_val rfl rfl (KW_ok ?_); try dsimp only)
  refine lw_sl hC hX hbl hen rfl (by unfold vp_in; decide +kernel) ?_
  repeat (refine wk_s hR hC MM_val rfl rfl (KW_ok ?_); try dsimp only)
  refine lw_sl hC hX hbl hen rfl (by unfold vp_in; decide +kernel) ?_
  repeat (refine wk_s hR hC MM_val rfl rfl (KW_ok ?_); try dsimp only)
  refine wk_V (z := 180) (As := [.int (xs 1), .int (xs 2), .int (xs 3)]) (rest := [.int r]) hR hC MM_val rfl (by decide) h2 h3 rfl rfl (Nat.le_of_ble_eq_true rfl) ⟨Nat.le_trans hk (by decide +kernel), Nat.le_trans hks (by decide +kernel)⟩ ?_
  simp only [Option.toList, List.cons_append, List.nil_append]
  refine wk_s hR hC MM_val rfl rfl (KW_ok ?_)
  refine wk_cT rfl ?_
  exact lw_fin hC hX hbl hen (Nat.le_trans (m := 204) hk (by decide)) (Nat.le_trans (m := 10000) hks (by decide))
set_option maxRecDepth 100000 in
set_option maxHeartbeats 4000000 in
/-- book -/
theorem lo_32 {p : Program} {l : Launch} {e : Env} {s : State} {m : MethodId} {below : List Frame} {meth : Method} {c : Code} {en ac : Nat → Nat} {D : va_G} {b0 : Nat} {k ks : Nat} {xs : Nat → Int32} (hC : ev_C p s m #[Value.ref b0] meth c s.heap.size en ac D MM 161) (hX : va_X b0 6 xs s s.heap) (hbl : b0 < s.heap.size) (hen : en 200 = b0) (hk : k ≤ 204) (hks : ks ≤ 10000) (ho : ∃ (r : Int32) (hc hd : List AE) (fs : List Value), ev_M l s.heap.size en ac D MM 9 6 [.ref 0, .int (xs 1)] ev_hB (some (.int r), hc) ∧ ev_M l s.heap.size en ac D MM 9 100 [.ref 180, .int (xs 1)] hc (some (.int r), hd) ∧ hc[180]? = some (.inr (11, fs))) : LK p l e s m below meth c en ac D b0 1115 [(4, .int 0), (3, .ref 203), (2, .ref 180), (1, .ref 0), (0, .retAddr 200)] [] ev_hB k ks := by
  have hR := lw_hR
  obtain ⟨r, hc, hd, fs, h1, h2, h3⟩ := ho
  repeat (refine wk_s hR hC MM_val rfl rfl (KW_ok ?_); try dsimp only)
  refine lw_sl hC hX hbl hen rfl (by unfold vp_in; decide +kernel) ?_
  repeat (refine wk_s hR hC MM_val rfl rfl (KW_ok ?_); try dsimp only)
  refine wk_V (z := 0) (As := [.int (xs 1)]) (rest := []) hR hC MM_val rfl (by decide) h1 rfl rfl rfl (Nat.le_of_ble_eq_true rfl) ⟨Nat.le_trans hk (by decide +kernel), Nat.le_trans hks (by decide +kernel)⟩ ?_
  simp only [Option.toList, List.cons_append, List.nil_append]
  repeat (refine wk_s hR hC MM_val rfl rfl (KW_ok ?_); try dsimp only)
  refine lw_sl hC hX hbl hen rfl (by unfold vp_in; decide +kernel) ?_
  repeat (refine wk_s hR hC MM_val rfl rfl (KW_ok ?_); try dsimp only)
  refine wk_V (z := 180) (As := [.int (xs 1)]) (rest := [.int r]) hR hC MM_val rfl (by decide) h2 h3 rfl rfl (Nat.le_of_ble_eq_true rfl) ⟨Nat.le_trans hk (by decide +kernel), Nat.le_trans hks (by decide +kernel)⟩ ?_
  simp only [Option.toList, List.cons_append, List.nil_append]
  refine wk_s hR hC MM_val rfl rfl (KW_ok ?_)
  refine wk_cT rfl ?_
  exact lw_fin hC hX hbl hen (Nat.le_trans (m := 204) hk (by decide)) (Nat.le_trans (m := 10000) hks (by decide))
set_option maxRecDepth 100000 in
set_option maxHeartbeats 4000000 in
/-- told -/
theorem lo_33 {p : Program} {l : Launch} {e : Env} {s : State} {m : MethodId} {below : List Frame} {meth : Method} {c : Code} {en ac : Nat → Nat} {D : va_G} {b0 : Nat} {k ks : Nat} {xs : Nat → Int32} (hC : ev_C p s m #[Value.ref b0] meth c s.heap.size en ac D MM 161) (hX : va_X b0 6 xs s s.heap) (hbl : b0 < s.heap.size) (hen : en 200 = b0) (hk : k ≤ 204) (hks : ks ≤ 10000) (ho : ∃ (r : Int32) (hc hd : List AE) (fs : List Value), ev_M l s.heap.size en ac D MM 9 40 [.ref 0, .int (xs 1)] ev_hB (some (.int r), hc) ∧ ev_M l s.heap.size en ac D MM 9 156 [.ref 180, .int (xs 1)] hc (some (.int r), hd) ∧ hc[180]? = some (.inr (11, fs))) : LK p l e s m below meth c en ac D b0 1140 [(4, .int 0), (3, .ref 203), (2, .ref 180), (1, .ref 0), (0, .retAddr 200)] [] ev_hB k ks := by
  have hR := lw_hR
  obtain ⟨r, hc, hd, fs, h1, h2, h3⟩ := ho
  repeat (refine wk_s hR hC MM_val rfl rfl (KW_ok ?_); try dsimp only)
  refine lw_sl hC hX hbl hen rfl (by unfold vp_in; decide +kernel) ?_
  repeat (refine wk_s hR hC MM_val rfl rfl (KW_ok ?_); try dsimp only)
  refine wk_V (z := 0) (As := [.int (xs 1)]) (rest := []) hR hC MM_val rfl (by decide) h1 rfl rfl rfl (Nat.le_of_ble_eq_true rfl) ⟨Nat.le_trans hk (by decide +kernel), Nat.le_trans hks (by decide +kernel)⟩ ?_
  simp only [Option.toList, List.cons_append, List.nil_append]
  repeat (refine wk_s hR hC MM_val rfl rfl (KW_ok ?_); try dsimp only)
  refine lw_sl hC hX hbl hen rfl (by unfold vp_in; decide +kernel) ?_
  repeat (refine wk_s hR hC MM_val rfl rfl (KW_ok ?_); try dsimp only)
  refine wk_V (z := 180) (As := [.int (xs 1)]) (rest := [.int r]) hR hC MM_val rfl (by decide) h2 h3 rfl rfl (Nat.le_of_ble_eq_true rfl) ⟨Nat.le_trans hk (by decide +kernel), Nat.le_trans hks (by decide +kernel)⟩ ?_
  simp only [Option.toList, List.cons_append, List.nil_append]
  refine wk_s hR hC MM_val rfl rfl (KW_ok ?_)
  refine wk_cT rfl ?_
  exact lw_fin hC hX hbl hen (Nat.le_trans (m := 204) hk (by decide)) (Nat.le_trans (m := 10000) hks (by decide))
set_option maxRecDepth 100000 in
set_option maxHeartbeats 4000000 in
/-- sentence -/
theorem lo_34 {p : Program} {l : Launch} {e : Env} {s : State} {m : MethodId} {below : List Frame} {meth : Method} {c : Code} {en ac : Nat → Nat} {D : va_G} {b0 : Nat} {k ks : Nat} {xs : Nat → Int32} (hC : ev_C p s m #[Value.ref b0] meth c s.heap.size en ac D MM 161) (hX : va_X b0 6 xs s s.heap) (hbl : b0 < s.heap.size) (hen : en 200 = b0) (hk : k ≤ 204) (hks : ks ≤ 10000) (ho : ∃ (r : Int32) (hc hd : List AE) (fs : List Value), ev_M l s.heap.size en ac D MM 9 35 [.ref 0] ev_hB (some (.int r), hc) ∧ ev_M l s.heap.size en ac D MM 9 147 [.ref 180] hc (some (.int r), hd) ∧ hc[180]? = some (.inr (11, fs))) : LK p l e s m below meth c en ac D b0 1165 [(4, .int 0), (3, .ref 203), (2, .ref 180), (1, .ref 0), (0, .retAddr 200)] [] ev_hB k ks := by
  have hR := lw_hR
  obtain ⟨r, hc, hd, fs, h1, h2, h3⟩ := ho
  repeat (refine wk_s hR hC MM_val rfl rfl (KW_ok ?_); try dsimp only)
  refine wk_V (z := 0) (As := []) (rest := []) hR hC MM_val rfl (by decide) h1 rfl rfl rfl (Nat.le_of_ble_eq_true rfl) ⟨Nat.le_trans hk (by decide +kernel), Nat.le_trans hks (by decide +kernel)⟩ ?_
  simp only [Option.toList, List.cons_append, List.nil_append]
  repeat (refine wk_s hR hC MM_val rfl rfl (KW_ok ?_); try dsimp only)
  refine wk_V (z := 180) (As := []) (rest := [.int r]) hR hC MM_val rfl (by decide) h2 h3 rfl rfl (Nat.le_of_ble_eq_true rfl) ⟨Nat.le_trans hk (by decide +kernel), Nat.le_trans hks (by decide +kernel)⟩ ?_
  simp only [Option.toList, List.cons_append, List.nil_append]
  refine wk_s hR hC MM_val rfl rfl (KW_ok ?_)
  refine wk_cT rfl ?_
  exact lw_fin hC hX hbl hen (Nat.le_trans (m := 204) hk (by decide)) (Nat.le_trans (m := 10000) hks (by decide))
set_option maxRecDepth 100000 in
set_option maxHeartbeats 4000000 in
/-- said -/
theorem lo_35 {p : Program} {l : Launch} {e : Env} {s : State} {m : MethodId} {below : List Frame} {meth : Method} {c : Code} {en ac : Nat → Nat} {D : va_G} {b0 : Nat} {k ks : Nat} {xs : Nat → Int32} (hC : ev_C p s m #[Value.ref b0] meth c s.heap.size en ac D MM 161) (hX : va_X b0 6 xs s s.heap) (hbl : b0 < s.heap.size) (hen : en 200 = b0) (hk : k ≤ 204) (hks : ks ≤ 10000) (ho : ∃ (r : Int32) (hc hd : List AE) (fs : List Value), ev_M l s.heap.size en ac D MM 9 34 [.ref 0, .int (xs 1)] ev_hB (some (.int r), hc) ∧ ev_M l s.heap.size en ac D MM 9 146 [.ref 180, .int (xs 1)] hc (some (.int r), hd) ∧ hc[180]? = some (.inr (11, fs))) : LK p l e s m below meth c en ac D b0 1178 [(4, .int 0), (3, .ref 203), (2, .ref 180), (1, .ref 0), (0, .retAddr 200)] [] ev_hB k ks := by
  have hR := lw_hR
  obtain ⟨r, hc, hd, fs, h1, h2, h3⟩ := ho
  repeat (refine wk_s hR hC MM_val rfl rfl (KW_ok ?_); try dsimp only)
  refine lw_sl hC hX hbl hen rfl (by unfold vp_in; decide +kernel) ?_
  repeat (refine wk_s hR hC MM_val rfl rfl (KW_ok ?_); try dsimp only)
  refine wk_V (z := 0) (As := [.int (xs 1)]) (rest := []) hR hC MM_val rfl (by decide) h1 rfl rfl rfl (Nat.le_of_ble_eq_true rfl) ⟨Nat.le_trans hk (by decide +kernel), Nat.le_trans hks (by decide +kernel)⟩ ?_
  simp only [Option.toList, List.cons_append, List.nil_append]
  repeat (refine wk_s hR hC MM_val rfl rfl (KW_ok ?_); try dsimp only)
  refine lw_sl hC hX hbl hen rfl (by unfold vp_in; decide +kernel) ?_
  repeat (refine wk_s hR hC MM_val rfl rfl (KW_ok ?_); try dsimp only)
  refine wk_V (z := 180) (As := [.int (xs 1)]) (rest := [.int r]) hR hC MM_val rfl (by decide) h2 h3 rfl rfl (Nat.le_of_ble_eq_true rfl) ⟨Nat.le_trans hk (by decide +kernel), Nat.le_trans hks (by decide +kernel)⟩ ?_
  simp only [Option.toList, List.cons_append, List.nil_append]
  refine wk_s hR hC MM_val rfl rfl (KW_ok ?_)
  refine wk_cT rfl ?_
  exact lw_fin hC hX hbl hen (Nat.le_trans (m := 204) hk (by decide)) (Nat.le_trans (m := 10000) hks (by decide))
set_option maxRecDepth 100000 in
set_option maxHeartbeats 4000000 in
/-- image -/
theorem lo_36 {p : Program} {l : Launch} {e : Env} {s : State} {m : MethodId} {below : List Frame} {meth : Method} {c : Code} {en ac : Nat → Nat} {D : va_G} {b0 : Nat} {k ks : Nat} {xs : Nat → Int32} (hC : ev_C p s m #[Value.ref b0] meth c s.heap.size en ac D MM 161) (hX : va_X b0 6 xs s s.heap) (hbl : b0 < s.heap.size) (hen : en 200 = b0) (hk : k ≤ 204) (hks : ks ≤ 10000) (ho : ∃ (r : Int32) (hc hd : List AE) (fs : List Value), ev_M l s.heap.size en ac D MM 9 24 [.ref 0, .int (xs 1)] ev_hB (some (.int r), hc) ∧ ev_M l s.heap.size en ac D MM 9 121 [.ref 180, .int (xs 1)] hc (some (.int r), hd) ∧ hc[180]? = some (.inr (11, fs))) : LK p l e s m below meth c en ac D b0 1203 [(4, .int 0), (3, .ref 203), (2, .ref 180), (1, .ref 0), (0, .retAddr 200)] [] ev_hB k ks := by
  have hR := lw_hR
  obtain ⟨r, hc, hd, fs, h1, h2, h3⟩ := ho
  repeat (refine wk_s hR hC MM_val rfl rfl (KW_ok ?_); try dsimp only)
  refine lw_sl hC hX hbl hen rfl (by unfold vp_in; decide +kernel) ?_
  repeat (refine wk_s hR hC MM_val rfl rfl (KW_ok ?_); try dsimp only)
  refine wk_V (z := 0) (As := [.int (xs 1)]) (rest := []) hR hC MM_val rfl (by decide) h1 rfl rfl rfl (Nat.le_of_ble_eq_true rfl) ⟨Nat.le_trans hk (by decide +kernel), Nat.le_trans hks (by decide +kernel)⟩ ?_
  simp only [Option.toList, List.cons_append, List.nil_append]
  repeat (refine wk_s hR hC MM_val rfl rfl (KW_ok ?_); try dsimp only)
  refine lw_sl hC hX hbl hen rfl (by unfold vp_in; decide +kernel) ?_
  repeat (refine wk_s hR hC MM_val rfl rfl (KW_ok ?_); try dsimp only)
  refine wk_V (z := 180) (As := [.int (xs 1)]) (rest := [.int r]) hR hC MM_val rfl (by decide) h2 h3 rfl rfl (Nat.le_of_ble_eq_true rfl) ⟨Nat.le_trans hk (by decide +kernel), Nat.le_trans hks (by decide +kernel)⟩ ?_
  simp only [Option.toList, List.cons_append, List.nil_append]
  refine wk_s hR hC MM_val rfl rfl (KW_ok ?_)
  refine wk_cT rfl ?_
  exact lw_fin hC hX hbl hen (Nat.le_trans (m := 204) hk (by decide)) (Nat.le_trans (m := 10000) hks (by decide))
set_option maxRecDepth 100000 in
set_option maxHeartbeats 4000000 in
/-- restore -/
theorem lo_37 {p : Program} {l : Launch} {e : Env} {s : State} {m : MethodId} {below : List Frame} {meth : Method} {c : Code} {en ac : Nat → Nat} {D : va_G} {b0 : Nat} {k ks : Nat} {xs : Nat → Int32} (hC : ev_C p s m #[Value.ref b0] meth c s.heap.size en ac D MM 161) (hX : va_X b0 6 xs s s.heap) (hbl : b0 < s.heap.size) (hen : en 200 = b0) (hk : k ≤ 204) (hks : ks ≤ 10000) (ho : ∃ (r : Int32) (hc hd : List AE) (fs : List Value), ev_M l s.heap.size en ac D MM 9 32 [.ref 0, .int (xs 1)] ev_hB (some (.int r), hc) ∧ ev_M l s.heap.size en ac D MM 9 144 [.ref 180, .int (xs 1)] hc (some (.int r), hd) ∧ hc[180]? = some (.inr (11, fs))) : LK p l e s m below meth c en ac D b0 1228 [(4, .int 0), (3, .ref 203), (2, .ref 180), (1, .ref 0), (0, .retAddr 200)] [] ev_hB k ks := by
  have hR := lw_hR
  obtain ⟨r, hc, hd, fs, h1, h2, h3⟩ := ho
  repeat (refine wk_s hR hC MM_val rfl rfl (KW_ok ?_); try dsimp only)
  refine lw_sl hC hX hbl hen rfl (by unfold vp_in; decide +kernel) ?_
  repeat (refine wk_s hR hC MM_val rfl rfl (KW_ok ?_); try dsimp only)
  refine wk_V (z := 0) (As := [.int (xs 1)]) (rest := []) hR hC MM_val rfl (by decide) h1 rfl rfl rfl (Nat.le_of_ble_eq_true rfl) ⟨Nat.le_trans hk (by decide +kernel), Nat.le_trans hks (by decide +kernel)⟩ ?_
  simp only [Option.toList, List.cons_append, List.nil_append]
  repeat (refine wk_s hR hC MM_val rfl rfl (KW_ok ?_); try dsimp only)
  refine lw_sl hC hX hbl hen rfl (by unfold vp_in; decide +kernel) ?_
  repeat (refine wk_s hR hC MM_val rfl rfl (KW_ok ?_); try dsimp only)
  refine wk_V (z := 180) (As := [.int (xs 1)]) (rest := [.int r]) hR hC MM_val rfl (by decide) h2 h3 rfl rfl (Nat.le_of_ble_eq_true rfl) ⟨Nat.le_trans hk (by decide +kernel), Nat.le_trans hks (by decide +kernel)⟩ ?_
  simp only [Option.toList, List.cons_append, List.nil_append]
  refine wk_s hR hC MM_val rfl rfl (KW_ok ?_)
  refine wk_cT rfl ?_
  exact lw_fin hC hX hbl hen (Nat.le_trans (m := 204) hk (by decide)) (Nat.le_trans (m := 10000) hks (by decide))
set_option maxRecDepth 100000 in
set_option maxHeartbeats 4000000 in
/-- count -/
theorem lo_38 {p : Program} {l : Launch} {e : Env} {s : State} {m : MethodId} {below : List Frame} {meth : Method} {c : Code} {en ac : Nat → Nat} {D : va_G} {b0 : Nat} {k ks : Nat} {xs : Nat → Int32} (hC : ev_C p s m #[Value.ref b0] meth c s.heap.size en ac D MM 161) (hX : va_X b0 6 xs s s.heap) (hbl : b0 < s.heap.size) (hen : en 200 = b0) (hk : k ≤ 204) (hks : ks ≤ 10000) (ho : ∃ (r : Int32) (hc hd : List AE) (fs : List Value), ev_M l s.heap.size en ac D MM 9 8 [.ref 0, .int (xs 1)] ev_hB (some (.int r), hc) ∧ ev_M l s.heap.size en ac D MM 9 103 [.ref 180, .int (xs 1)] hc (some (.int r), hd) ∧ hc[180]? = some (.inr (11, fs))) : LK p l e s m below meth c en ac D b0 1253 [(4, .int 0), (3, .ref 203), (2, .ref 180), (1, .ref 0), (0, .retAddr 200)] [] ev_hB k ks := by
  have hR := lw_hR
  obtain ⟨r, hc, hd, fs, h1, h2, h3⟩ := ho
  repeat (refine wk_s hR hC MM_val rfl rfl (KW_ok ?_); try dsimp only)
  refine lw_sl hC hX hbl hen rfl (by unfold vp_in; decide +kernel) ?_
  repeat (refine wk_s hR hC MM_val rfl rfl (KW_ok ?_); try dsimp only)
  refine wk_V (z := 0) (As := [.int (xs 1)]) (rest := []) hR hC MM_val rfl (by decide) h1 rfl rfl rfl (Nat.le_of_ble_eq_true rfl) ⟨Nat.le_trans hk (by decide +kernel), Nat.le_trans hks (by decide +kernel)⟩ ?_
  simp only [Option.toList, List.cons_append, List.nil_append]
  repeat (refine wk_s hR hC MM_val rfl rfl (KW_ok ?_); try dsimp only)
  refine lw_sl hC hX hbl hen rfl (by unfold vp_in; decide +kernel) ?_
  repeat (refine wk_s hR hC MM_val rfl rfl (KW_ok ?_); try dsimp only)
  refine wk_V (z := 180) (As := [.int (xs 1)]) (rest := [.int r]) hR hC MM_val rfl (by decide) h2 h3 rfl rfl (Nat.le_of_ble_eq_true rfl) ⟨Nat.le_trans hk (by decide +kernel), Nat.le_trans hks (by decide +kernel)⟩ ?_
  simp only [Option.toList, List.cons_append, List.nil_append]
  refine wk_s hR hC MM_val rfl rfl (KW_ok ?_)
  refine wk_cT rfl ?_
  exact lw_fin hC hX hbl hen (Nat.le_trans (m := 204) hk (by decide)) (Nat.le_trans (m := 10000) hks (by decide))
