set_option maxRecDepth 100000 in
set_option maxHeartbeats 8000000 in
theorem whole_start {p : Program} {e : Env} {s : State} {m : MethodId} {below : List Frame} {meth : Method} {c : Code} (l : Launch) (hsT : l.stackTraces = false) {b L : Nat} {xs : Nat → Int32} (hL : L ≤ 6) (C0 : lw_At p s m meth c b L xs) : W p l e room_1 s m #[Value.ref b] below meth c s.heap [] 0 0 (lw_Z below #[Value.ref b] s) (entryFrame m ([Value.ref b] : List Value).toArray 7) := by
  obtain ⟨D, ac, en, hC, hen⟩ := cx_C C0
  have hT := pe_T0 C0
  obtain ⟨-, -, -, -, -, -, hX, hbl, -, -⟩ := C0
  have hR := lw_hR
  have key : LK p l e s m below meth c en ac D b 0 [(0, .retAddr 200)] [] [] 0 0 := by
    refine wk_s hR hC MM_val rfl rfl (KW_ok ?_)
    refine wk_s hR hC MM_val rfl rfl (KW_ok ?_)
    refine wk_I (z := 0) (As := []) (rest := [.ref 0]) hR hC MM_val rfl (by decide) (ev_ok l s.heap.size en ac D MM_val 9 _ _ _ _ (ev_is_ok ini_x)) rfl rfl (by decide +kernel) (by decide +kernel) ?_
    simp only [Option.toList, List.nil_append]
    refine wk_s hR hC MM_val rfl rfl (KW_ok ?_)
    refine wk_s hR hC MM_val rfl rfl (KW_ok ?_)
    refine wk_s hR hC MM_val rfl rfl (KW_ok ?_)
    refine wk_I (z := 180) (As := []) (rest := [.ref 180]) hR hC MM_val rfl (by decide) (ev_ok l s.heap.size en ac D MM_val 9 _ _ _ _ (ev_is_ok ini_m)) rfl rfl (by decide +kernel) (by decide +kernel) ?_
    simp only [Option.toList, List.nil_append]
    refine wk_s hR hC MM_val rfl rfl (KW_ok ?_)
    refine wk_s hR hC MM_val rfl rfl (KW_ok ?_)
    refine wk_s hR hC MM_val rfl rfl (KW_ok ?_)
    refine wk_heap ev_hB (by decide +kernel) ?_
    refine wk_s hR hC MM_val rfl rfl (KW_ok ?_)
    refine wk_s hR hC MM_val rfl rfl (KW_ok ?_)
    refine wk_s hR hC MM_val rfl rfl (KW_ok ?_)
    refine wk_L [(4, .int 0), (3, .ref 203), (2, .ref 180), (1, .ref 0), (0, .retAddr 200)] (by decide +kernel) ?_
    by_cases h6 : L = 6
    · subst h6
      refine wk_s hR hC MM_val rfl rfl (KW_ok ?_)
      refine wk_s hR hC MM_val rfl rfl (KW_ok ?_)
      refine lw_sn hC hX hbl hen rfl ?_
      refine wk_s hR hC MM_val rfl rfl (KW_ok ?_)
      refine wk_s hR hC MM_val rfl rfl (KW_ok ?_)
      refine wk_s hR hC MM_val rfl rfl (KW_ok ?_)
      refine wk_cF (by decide +kernel) ?_
      exact lw_go hsT hT hC hX hbl hen (by decide +kernel) (by decide +kernel)
    · exact lw_ex hC hX hbl hen (lw_lt L (by omega)) (by decide +kernel) (by decide +kernel)
  have hl := lv_entry ([.ref b]) (n := 7) (Nat.le_of_ble_eq_true rfl)
  rw [lg_entry_eq]
  refine key _ _ _ ⟨fun k q h => by simp [ev_ws] at h, va_S.rf, rfl⟩ ?_
  show lv_has _ 7 [(0, .ref (en 200))]
  rw [hen]
  exact hl
