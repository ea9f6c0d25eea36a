/-! ===== the law ===== -/
theorem lw_lt : ∀ L, L < 6 → Int32.ofNat L - 6 < 0 := by decide +kernel
theorem wk_st {p : Program} {l : Launch} {e : Env} {R : Room} {s : State} {m : MethodId} {args : Array Value} {below : List Frame} {meth : Method} {c : Code} {Q : State → Prop} {b : Nat} {en ac : Nat → Nat} {D : va_G} {M : MT} {mi pc k ks : Nat} {L : List (Nat × Value)} {st : List Value} {hp : List AE} (st' : List Value) (h : st = st') (w : Wk p l e R s m args below meth c b en ac D M mi Q pc L st' hp k ks) : Wk p l e R s m args below meth c b en ac D M mi Q pc L st hp k ks := by
  rw [h]; exact w
theorem lo_4 {p : Program} {l : Launch} {e : Env} {s : State} {m : MethodId} {below : List Frame} {meth : Method} {c : Code} {en ac : Nat → Nat} {D : va_G} {b0 : Nat} {k ks : Nat} {xs : Nat → Int32} (hC : ev_C p s m #[Value.ref b0] meth c s.heap.size en ac D MM 161) (hX : va_X b0 6 xs s s.heap) (hbl : b0 < s.heap.size) (hen : en 200 = b0) (hk : k ≤ 204) (hks : ks ≤ 10000) : LK p l e s m below meth c en ac D b0 336 [(4, .int 0), (3, .ref 203), (2, .ref 180), (1, .ref 0), (0, .retAddr 200)] [] ev_hB k ks := sorry
set_option maxRecDepth 100000 in
set_option maxHeartbeats 8000000 in
theorem lw_go {p : Program} {l : Launch} {e : Env} {s : State} {m : MethodId} {below : List Frame} {meth : Method} {c : Code} {en ac : Nat → Nat} {D : va_G} {b0 : Nat} {k ks : Nat} {xs : Nat → Int32} (hC : ev_C p s m #[Value.ref b0] meth c s.heap.size en ac D MM 161) (hX : va_X b0 6 xs s s.heap) (hbl : b0 < s.heap.size) (hen : en 200 = b0) (hk : k ≤ 204) (hks : ks ≤ 10000) : LK p l e s m below meth c en ac D b0 33 [(4, .int 0), (3, .ref 203), (2, .ref 180), (1, .ref 0), (0, .retAddr 200)] [] ev_hB k ks := by
  have hR := lw_hR
  repeat (refine wk_s hR hC MM_val rfl rfl (KW_ok ?_); try dsimp only)
  refine lw_sl hC hX hbl hen rfl (by unfold vp_in; decide +kernel) ?_
  repeat (refine wk_s hR hC MM_val rfl rfl (KW_ok ?_); try dsimp only)
  obtain ⟨j, hj, e⟩ := pk_andE (xs 0) (m := 63) 6 (by decide +kernel)
  refine wk_st (st' := [.int (nI j)]) (by rw [← e]; rfl) ?_
  by_cases h38 : 38 < j
  · refine wk_tsO (t := 1278) hR hC MM_val rfl (Or.inr (by rw [nI_toInt (by omega)]; omega)) rfl ?_
    exact lw_fin hC hX hbl hen (Nat.le_trans hk (by decide)) (Nat.le_trans hks (by decide))
  · match j, h38 with
    | 0, _ =>
      refine wk_s hR hC MM_val rfl rfl (KW_ok ?_)
      exact lo_0 hC hX hbl hen hk hks (op_0 _ _ _ _ _ (xs 1) (xs 2) (xs 3) (xs 4) (xs 5))
    | 1, _ =>
      refine wk_s hR hC MM_val rfl rfl (KW_ok ?_)
      exact lo_1 hC hX hbl hen hk hks (op_1 _ _ _ _ _ (xs 1))
    | 2, _ =>
      refine wk_s hR hC MM_val rfl rfl (KW_ok ?_)
      exact lo_2 hC hX hbl hen hk hks (op_2 _ _ _ _ _)
    | 3, _ =>
      refine wk_s hR hC MM_val rfl rfl (KW_ok ?_)
      exact lo_3 hC hX hbl hen hk hks (op_3 _ _ _ _ _)
    | 4, _ =>
      refine wk_s hR hC MM_val rfl rfl (KW_ok ?_)
      exact lo_4 hC hX hbl hen hk hks
    | 5, _ =>
      refine wk_s hR hC MM_val rfl rfl (KW_ok ?_)
      exact lo_5 hC hX hbl hen hk hks (op_5 _ _ _ _ _ (xs 1) (xs 2))
    | 6, _ =>
      refine wk_s hR hC MM_val rfl rfl (KW_ok ?_)
      exact lo_6 hC hX hbl hen hk hks (op_6 _ _ _ _ _ (xs 1) (xs 2))
    | 7, _ =>
      refine wk_s hR hC MM_val rfl rfl (KW_ok ?_)
      exact lo_7 hC hX hbl hen hk hks (op_7 _ _ _ _ _ (xs 1))
    | 8, _ =>
      refine wk_s hR hC MM_val rfl rfl (KW_ok ?_)
      exact lo_8 hC hX hbl hen hk hks (op_8 _ _ _ _ _ (xs 1) (xs 2) (xs 3))
    | 9, _ =>
      refine wk_s hR hC MM_val rfl rfl (KW_ok ?_)
      exact lo_9 hC hX hbl hen hk hks (op_9 _ _ _ _ _ (xs 1) (xs 2))
    | 10, _ =>
      refine wk_s hR hC MM_val rfl rfl (KW_ok ?_)
      exact lo_10 hC hX hbl hen hk hks (op_10 _ _ _ _ _ (xs 1))
    | 11, _ =>
      refine wk_s hR hC MM_val rfl rfl (KW_ok ?_)
      exact lo_11 hC hX hbl hen hk hks (op_11 _ _ _ _ _ (xs 1))
    | 12, _ =>
      refine wk_s hR hC MM_val rfl rfl (KW_ok ?_)
      exact lo_12 hC hX hbl hen hk hks (op_12 _ _ _ _ _ (xs 1))
    | 13, _ =>
      refine wk_s hR hC MM_val rfl rfl (KW_ok ?_)
      exact lo_13 hC hX hbl hen hk hks (op_13 _ _ _ _ _ (xs 1))
    | 14, _ =>
      refine wk_s hR hC MM_val rfl rfl (KW_ok ?_)
      exact lo_14 hC hX hbl hen hk hks (op_14 _ _ _ _ _)
    | 15, _ =>
      refine wk_s hR hC MM_val rfl rfl (KW_ok ?_)
      exact lo_15 hC hX hbl hen hk hks (op_15 _ _ _ _ _ (xs 1) (xs 2))
    | 16, _ =>
      refine wk_s hR hC MM_val rfl rfl (KW_ok ?_)
      exact lo_16 hC hX hbl hen hk hks (op_16 _ _ _ _ _)
    | 17, _ =>
      refine wk_s hR hC MM_val rfl rfl (KW_ok ?_)
      exact lo_17 hC hX hbl hen hk hks (op_17 _ _ _ _ _ (xs 1) (xs 2))
    | 18, _ =>
      refine wk_s hR hC MM_val rfl rfl (KW_ok ?_)
      exact lo_18 hC hX hbl hen hk hks (op_18 _ _ _ _ _)
    | 19, _ =>
      refine wk_s hR hC MM_val rfl rfl (KW_ok ?_)
      exact lo_19 hC hX hbl hen hk hks (op_19 _ _ _ _ _ (xs 1))
    | 20, _ =>
      refine wk_s hR hC MM_val rfl rfl (KW_ok ?_)
      exact lo_20 hC hX hbl hen hk hks (op_20 _ _ _ _ _)
    | 21, _ =>
      refine wk_s hR hC MM_val rfl rfl (KW_ok ?_)
      exact lo_21 hC hX hbl hen hk hks (op_21 _ _ _ _ _ (xs 1) (xs 2))
    | 22, _ =>
      refine wk_s hR hC MM_val rfl rfl (KW_ok ?_)
      exact lo_22 hC hX hbl hen hk hks (op_22 _ _ _ _ _)
    | 23, _ =>
      refine wk_s hR hC MM_val rfl rfl (KW_ok ?_)
      exact lo_23 hC hX hbl hen hk hks (op_23 _ _ _ _ _)
    | 24, _ =>
      refine wk_s hR hC MM_val rfl rfl (KW_ok ?_)
      exact lo_24 hC hX hbl hen hk hks (op_24 _ _ _ _ _)
    | 25, _ =>
      refine wk_s hR hC MM_val rfl rfl (KW_ok ?_)
      exact lo_25 hC hX hbl hen hk hks (op_25 _ _ _ _ _ (xs 1))
    | 26, _ =>
      refine wk_s hR hC MM_val rfl rfl (KW_ok ?_)
      exact lo_26 hC hX hbl hen hk hks (op_26 _ _ _ _ _ (xs 1))
    | 27, _ =>
      refine wk_s hR hC MM_val rfl rfl (KW_ok ?_)
      exact lo_27 hC hX hbl hen hk hks (op_27 _ _ _ _ _)
    | 28, _ =>
      refine wk_s hR hC MM_val rfl rfl (KW_ok ?_)
      exact lo_28 hC hX hbl hen hk hks (op_28 _ _ _ _ _ (xs 1))
    | 29, _ =>
      refine wk_s hR hC MM_val rfl rfl (KW_ok ?_)
      exact lo_29 hC hX hbl hen hk hks (op_29 _ _ _ _ _ (xs 1))
    | 30, _ =>
      refine wk_s hR hC MM_val rfl rfl (KW_ok ?_)
      exact lo_30 hC hX hbl hen hk hks (op_30 _ _ _ _ _ (xs 1) (xs 2))
    | 31, _ =>
      refine wk_s hR hC MM_val rfl rfl (KW_ok ?_)
      exact lo_31 hC hX hbl hen hk hks (op_31 _ _ _ _ _ (xs 1) (xs 2) (xs 3))
    | 32, _ =>
      refine wk_s hR hC MM_val rfl rfl (KW_ok ?_)
      exact lo_32 hC hX hbl hen hk hks (op_32 _ _ _ _ _ (xs 1))
    | 33, _ =>
      refine wk_s hR hC MM_val rfl rfl (KW_ok ?_)
      exact lo_33 hC hX hbl hen hk hks (op_33 _ _ _ _ _ (xs 1))
    | 34, _ =>
      refine wk_s hR hC MM_val rfl rfl (KW_ok ?_)
      exact lo_34 hC hX hbl hen hk hks (op_34 _ _ _ _ _)
    | 35, _ =>
      refine wk_s hR hC MM_val rfl rfl (KW_ok ?_)
      exact lo_35 hC hX hbl hen hk hks (op_35 _ _ _ _ _ (xs 1))
    | 36, _ =>
      refine wk_s hR hC MM_val rfl rfl (KW_ok ?_)
      exact lo_36 hC hX hbl hen hk hks (op_36 _ _ _ _ _ (xs 1))
    | 37, _ =>
      refine wk_s hR hC MM_val rfl rfl (KW_ok ?_)
      exact lo_37 hC hX hbl hen hk hks (op_37 _ _ _ _ _ (xs 1))
    | 38, _ =>
      refine wk_s hR hC MM_val rfl rfl (KW_ok ?_)
      exact lo_38 hC hX hbl hen hk hks (op_38 _ _ _ _ _ (xs 1))
    | j + 39, h => exact absurd h (by omega)
