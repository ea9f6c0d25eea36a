/-! ===== the law ===== -/
theorem wk_st {p : Program} {l : Launch} {e : Env} {R : Room} {s : State} {m : MethodId} {args : Array Value} {below : List Frame} {meth : Method} {c : Code} {Q : State → Prop} {b : Nat} {en ac : Nat → Nat} {D : va_G} {M : MT} {mi pc k ks : Nat} {L : List (Nat × Value)} {st : List Value} {hp : List AE} (st' : List Value) (h : st = st') (w : Wk p l e R s m args below meth c b en ac D M mi Q pc L st' hp k ks) : Wk p l e R s m args below meth c b en ac D M mi Q pc L st hp k ks := by
  rw [h]; exact w
theorem lo_4 {p : Program} {l : Launch} {e : Env} {s : State} {m : MethodId} {below : List Frame} {meth : Method} {c : Code} {en ac : Nat → Nat} {D : va_G} {b0 : Nat} {k ks : Nat} {xs : Nat → Int32} (hC : ev_C p s m #[Value.ref b0] meth c s.heap.size en ac D MM 161) (hX : va_X b0 6 xs s s.heap) (hbl : b0 < s.heap.size) (hen : en 200 = b0) (hk : k ≤ 204) (hks : ks ≤ 10000) : LK p l e s m below meth c en ac D b0 336 [(4, .int 0), (3, .ref 203), (2, .ref 180), (1, .ref 0), (0, .retAddr 200)] [] ev_hB k ks := sorry
set_option maxRecDepth 100000 in
set_option maxHeartbeats 8000000 in
theorem lw_go {p : Program} {l : Launch} {e : Env} {s : State} {m : MethodId} {below : List Frame} {meth : Method} {c : Code} {en ac : Nat → Nat} {D : va_G} {b0 : Nat} {k ks : Nat} {xs : Nat → Int32} (hC : ev_C p s m #[Value.ref b0] meth c s.heap.size en ac D MM 161) (hX : va_X b0 6 xs s s.heap) (hbl : b0 < s.heap.size) (hen : en 200 = b0) (hk : k ≤ 204) (hks : ks ≤ 10000) : LK p l e s m below meth c en ac D b0 33 [(4, .int 0), (3, .ref 203), (2, .ref 180), (1, .ref 0), (0, .retAddr 200)] [] ev_hB k ks := by
  have hR := lw_hR
  repeat (refine wk_s hR hC MM_val rfl rfl (KW_ok ?_); try dsimp only)
  refine lw_sl hC hX hbl hen rfl (by unfold vp_in; decide +kernel) ?_
  repeat (refine wk_s hR hC MM_val rfl rfl (KW_ok ?_); try dsimp only)
  obtain ⟨j, hj, e⟩ := pk_andE (xs 0) (m := 63) 6 (by decide +kernel)
  refine wk_st (st' := [.int (nI j)]) (by rw [← e]; rfl) ?_
  by_cases h38 : 38 < j
  · refine wk_tsO (t := 1278) hR hC MM_val rfl (Or.inr (by rw [nI_toInt (by omega)]; omega)) rfl ?_
    exact lw_fin hC hX hbl hen (Nat.le_trans hk (by decide)) (Nat.le_trans hks (by decide))
  · match j, h38 with
    | 0, _ => exact wk_s hR hC MM_val rfl rfl (KW_ok (lo_0 hC hX hbl hen hk hks (op_0 _ _ _ _ _ (xs 1) (xs 2) (xs 3) (xs 4) (xs 5))))
    | 1, _ => exact wk_s hR hC MM_val rfl rfl (KW_ok (lo_1 hC hX hbl hen hk hks (op_1 _ _ _ _ _ (xs 1))))
    | 2, _ => exact wk_s hR hC MM_val rfl rfl (KW_ok (lo_2 hC hX hbl hen hk hks (op_2 _ _ _ _ _)))
    | 3, _ => exact wk_s hR hC MM_val rfl rfl (KW_ok (lo_3 hC hX hbl hen hk hks (op_3 _ _ _ _ _)))
    | 4, _ => exact wk_s hR hC MM_val rfl rfl (KW_ok (lo_4 hC hX hbl hen hk hks))
    | 5, _ => exact wk_s hR hC MM_val rfl rfl (KW_ok (lo_5 hC hX hbl hen hk hks (op_5 _ _ _ _ _ (xs 1) (xs 2))))
    | 6, _ => exact wk_s hR hC MM_val rfl rfl (KW_ok (lo_6 hC hX hbl hen hk hks (op_6 _ _ _ _ _ (xs 1) (xs 2))))
    | 7, _ => exact wk_s hR hC MM_val rfl rfl (KW_ok (lo_7 hC hX hbl hen hk hks (op_7 _ _ _ _ _ (xs 1))))
    | 8, _ => exact wk_s hR hC MM_val rfl rfl (KW_ok (lo_8 hC hX hbl hen hk hks (op_8 _ _ _ _ _ (xs 1) (xs 2) (xs 3))))
    | 9, _ => exact wk_s hR hC MM_val rfl rfl (KW_ok (lo_9 hC hX hbl hen hk hks (op_9 _ _ _ _ _ (xs 1) (xs 2))))
    | 10, _ => exact wk_s hR hC MM_val rfl rfl (KW_ok (lo_10 hC hX hbl hen hk hks (op_10 _ _ _ _ _ (xs 1))))
    | 11, _ => exact wk_s hR hC MM_val rfl rfl (KW_ok (lo_11 hC hX hbl hen hk hks (op_11 _ _ _ _ _ (xs 1))))
    | 12, _ => exact wk_s hR hC MM_val rfl rfl (KW_ok (lo_12 hC hX hbl hen hk hks (op_12 _ _ _ _ _ (xs 1))))
    | 13, _ => exact wk_s hR hC MM_val rfl rfl (KW_ok (lo_13 hC hX hbl hen hk hks (op_13 _ _ _ _ _ (xs 1))))
    | 14, _ => exact wk_s hR hC MM_val rfl rfl (KW_ok (lo_14 hC hX hbl hen hk hks (op_14 _ _ _ _ _)))
    | 15, _ => exact wk_s hR hC MM_val rfl rfl (KW_ok (lo_15 hC hX hbl hen hk hks (op_15 _ _ _ _ _ (xs 1) (xs 2))))
    | 16, _ => exact wk_s hR hC MM_val rfl rfl (KW_ok (lo_16 hC hX hbl hen hk hks (op_16 _ _ _ _ _)))
    | 17, _ => exact wk_s hR hC MM_val rfl rfl (KW_ok (lo_17 hC hX hbl hen hk hks (op_17 _ _ _ _ _ (xs 1) (xs 2))))
    | 18, _ => exact wk_s hR hC MM_val rfl rfl (KW_ok (lo_18 hC hX hbl hen hk hks (op_18 _ _ _ _ _)))
    | 19, _ => exact wk_s hR hC MM_val rfl rfl (KW_ok (lo_19 hC hX hbl hen hk hks (op_19 _ _ _ _ _ (xs 1))))
    | 20, _ => exact wk_s hR hC MM_val rfl rfl (KW_ok (lo_20 hC hX hbl hen hk hks (op_20 _ _ _ _ _)))
    | 21, _ => exact wk_s hR hC MM_val rfl rfl (KW_ok (lo_21 hC hX hbl hen hk hks (op_21 _ _ _ _ _ (xs 1) (xs 2))))
    | 22, _ => exact wk_s hR hC MM_val rfl rfl (KW_ok (lo_22 hC hX hbl hen hk hks (op_22 _ _ _ _ _)))
    | 23, _ => exact wk_s hR hC MM_val rfl rfl (KW_ok (lo_23 hC hX hbl hen hk hks (op_23 _ _ _ _ _)))
    | 24, _ => exact wk_s hR hC MM_val rfl rfl (KW_ok (lo_24 hC hX hbl hen hk hks (op_24 _ _ _ _ _)))
    | 25, _ => exact wk_s hR hC MM_val rfl rfl (KW_ok (lo_25 hC hX hbl hen hk hks (op_25 _ _ _ _ _ (xs 1))))
    | 26, _ => exact wk_s hR hC MM_val rfl rfl (KW_ok (lo_26 hC hX hbl hen hk hks (op_26 _ _ _ _ _ (xs 1))))
    | 27, _ => exact wk_s hR hC MM_val rfl rfl (KW_ok (lo_27 hC hX hbl hen hk hks (op_27 _ _ _ _ _)))
    | 28, _ => exact wk_s hR hC MM_val rfl rfl (KW_ok (lo_28 hC hX hbl hen hk hks (op_28 _ _ _ _ _ (xs 1))))
    | 29, _ => exact wk_s hR hC MM_val rfl rfl (KW_ok (lo_29 hC hX hbl hen hk hks (op_29 _ _ _ _ _ (xs 1))))
    | 30, _ => exact wk_s hR hC MM_val rfl rfl (KW_ok (lo_30 hC hX hbl hen hk hks (op_30 _ _ _ _ _ (xs 1) (xs 2))))
    | 31, _ => exact wk_s hR hC MM_val rfl rfl (KW_ok (lo_31 hC hX hbl hen hk hks (op_31 _ _ _ _ _ (xs 1) (xs 2) (xs 3))))
    | 32, _ => exact wk_s hR hC MM_val rfl rfl (KW_ok (lo_32 hC hX hbl hen hk hks (op_32 _ _ _ _ _ (xs 1))))
    | 33, _ => exact wk_s hR hC MM_val rfl rfl (KW_ok (lo_33 hC hX hbl hen hk hks (op_33 _ _ _ _ _ (xs 1))))
    | 34, _ => exact wk_s hR hC MM_val rfl rfl (KW_ok (lo_34 hC hX hbl hen hk hks (op_34 _ _ _ _ _)))
    | 35, _ => exact wk_s hR hC MM_val rfl rfl (KW_ok (lo_35 hC hX hbl hen hk hks (op_35 _ _ _ _ _ (xs 1))))
    | 36, _ => exact wk_s hR hC MM_val rfl rfl (KW_ok (lo_36 hC hX hbl hen hk hks (op_36 _ _ _ _ _ (xs 1))))
    | 37, _ => exact wk_s hR hC MM_val rfl rfl (KW_ok (lo_37 hC hX hbl hen hk hks (op_37 _ _ _ _ _ (xs 1))))
    | 38, _ => exact wk_s hR hC MM_val rfl rfl (KW_ok (lo_38 hC hX hbl hen hk hks (op_38 _ _ _ _ _ (xs 1))))
    | j + 39, h => exact absurd h (by omega)
set_option maxRecDepth 100000 in
set_option maxHeartbeats 8000000 in
theorem whole_start {p : Program} {e : Env} {s : State} {m : MethodId} {below : List Frame} {meth : Method} {c : Code} (l : Launch) {b L : Nat} {xs : Nat → Int32} (hL : L ≤ 6) (C0 : lw_At p s m meth c b L xs) : W p l e room_1 s m #[Value.ref b] below meth c s.heap [] 0 0 (lw_Z below #[Value.ref b] s) (entryFrame m ([Value.ref b] : List Value).toArray 7) := by
  obtain ⟨D, ac, en, hC, hen⟩ := cx_C C0
  obtain ⟨-, -, -, -, -, -, hX, hbl, -, -⟩ := C0
  have hR := lw_hR
  have key : LK p l e s m below meth c en ac D b 0 [(0, .retAddr 200)] [] [] 0 0 := by
    refine wk_s hR hC MM_val rfl rfl (KW_ok ?_)
    refine wk_s hR hC MM_val rfl rfl (KW_ok ?_)
    refine wk_I (z := 0) (As := []) (rest := [.ref 0]) hR hC MM_val rfl (by decide) (ev_ok l s.heap.size en ac D MM_val 9 _ _ _ _ (ev_is_ok ini_x)) rfl rfl (by decide +kernel) (by decide +kernel) ?_
    simp only [Option.toList, List.nil_append]
    refine wk_s hR hC MM_val rfl rfl (KW_ok ?_)
    refine wk_s hR hC MM_val rfl rfl (KW_ok ?_)
    refine wk_s hR hC MM_val rfl rfl (KW_ok ?_)
    refine wk_I (z := 180) (As := []) (rest := [.ref 180]) hR hC MM_val rfl (by decide) (ev_ok l s.heap.size en ac D MM_val 9 _ _ _ _ (ev_is_ok ini_m)) rfl rfl (by decide +kernel) (by decide +kernel) ?_
    simp only [Option.toList, List.nil_append]
    refine wk_s hR hC MM_val rfl rfl (KW_ok ?_)
    refine wk_s hR hC MM_val rfl rfl (KW_ok ?_)
    refine wk_s hR hC MM_val rfl rfl (KW_ok ?_)
    refine wk_heap ev_hB (by decide +kernel) ?_
    refine wk_s hR hC MM_val rfl rfl (KW_ok ?_)
    refine wk_s hR hC MM_val rfl rfl (KW_ok ?_)
    refine wk_s hR hC MM_val rfl rfl (KW_ok ?_)
    refine wk_L [(4, .int 0), (3, .ref 203), (2, .ref 180), (1, .ref 0), (0, .retAddr 200)] (by decide +kernel) ?_
    by_cases h6 : L = 6
    · subst h6
      repeat (refine wk_s hR hC MM_val rfl rfl (KW_ok ?_); try dsimp only)
      refine lw_sn hC hX hbl hen rfl ?_
      repeat (refine wk_s hR hC MM_val rfl rfl (KW_ok ?_); try dsimp only)
      refine wk_cF (by decide +kernel) ?_
      exact lw_go hC hX hbl hen (by decide +kernel) (by decide +kernel)
    · refine lw_ex hC hX hbl hen ?_ (by decide +kernel) (by decide +kernel)
      match L, hL, h6 with
      | 0, _, _ => decide +kernel
      | 1, _, _ => decide +kernel
      | 2, _, _ => decide +kernel
      | 3, _, _ => decide +kernel
      | 4, _, _ => decide +kernel
      | 5, _, _ => decide +kernel
      | 6, _, h => exact absurd rfl h
  have hl := lv_entry ([.ref b]) (n := 7) (Nat.le_of_ble_eq_true rfl)
  rw [lg_entry_eq]
  refine key _ _ _ ⟨fun k q h => by simp [ev_ws] at h, va_S.rf, rfl⟩ ?_
  show lv_has _ 7 [(0, .ref (en 200))]
  rw [hen]
  exact hl
