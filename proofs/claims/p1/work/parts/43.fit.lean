/-! ===== fitAt of the class: 21 rounds ===== -/
set_option maxRecDepth 100000 in
set_option maxHeartbeats 4000000 in
theorem bt_it {p : Program} {l : Launch} {e : Env} {s : State} {m : MethodId} {args : Array Value} {below : List Frame} {meth : Method} {c : Code} {Q : State → Prop} {b : Nat} {en ac : Nat → Nat} {D : va_G} {d : Nat} (hC : ev_C p s m args meth c b en ac D MM 5) (i v : Int32) (h1 : ¬ (21 : Int32) ≤ i) (h2 : ¬ ((((0 : Int32).toUInt32 >>> (i.toUInt32 &&& Int32.toUInt32 31)).toInt32 &&& 1) = 1)) (w : Wk p l e (ev_rm MM (d + 1) 5) s m args below meth c b en ac D MM 5 Q 4 [(3, .int (i + 1)), (2, .int v), (0, .int 0), (1, .int v)] [] ev_hB 0 0) : Wk p l e (ev_rm MM (d + 1) 5) s m args below meth c b en ac D MM 5 Q 4 [(3, .int i), (2, .int v), (0, .int 0), (1, .int v)] [] ev_hB 0 0 := by
  have hR := ev_rmR MM d 5
  refine wk_s hR hC MM_val rfl rfl (KW_ok ?_)
  refine wk_s hR hC MM_val rfl rfl (KW_ok ?_)
  refine wk_s hR hC MM_val rfl rfl (KW_ok ?_)
  refine wk_cF h1 ?_
  refine wk_s hR hC MM_val rfl rfl (KW_ok ?_)
  refine wk_s hR hC MM_val rfl rfl (KW_ok ?_)
  refine wk_s hR hC MM_val rfl rfl (KW_ok ?_)
  refine wk_s hR hC MM_val rfl rfl (KW_ok ?_)
  refine wk_s hR hC MM_val rfl rfl (KW_ok ?_)
  refine wk_s hR hC MM_val rfl rfl (KW_ok ?_)
  refine wk_s hR hC MM_val rfl rfl (KW_ok ?_)
  refine wk_cF h2 ?_
  refine wk_s hR hC MM_val rfl rfl (KW_ok ?_)
  refine wk_s hR hC MM_val rfl rfl (KW_ok ?_)
  exact w
set_option maxRecDepth 100000 in
set_option maxHeartbeats 4000000 in
theorem cx_bitAt (l : Launch) (b : Nat) (en ac : Nat → Nat) (D : va_G) (d : Nat) (v : Int32) : ev_M l b en ac D MM (d + 1) 5 [.int 0, .int v] ev_hB (some (.int (-1)), ev_hB) := by
  refine ev_mk (by decide +kernel) (Nat.le_of_ble_eq_true rfl) (fun p e s m args below meth c hC => ?_)
  have hR := ev_rmR MM d 5
  have hh : ∀ Q, Wk p l e (ev_rm MM (d + 1) 5) s m args below meth c b en ac D MM 5 Q 4 [(3, .int 21), (2, .int v), (0, .int 0), (1, .int v)] [] ev_hB 0 0 → Wk p l e (ev_rm MM (d + 1) 5) s m args below meth c b en ac D MM 5 Q 4 [(3, .int 0), (2, .int v), (0, .int 0), (1, .int v)] [] ev_hB 0 0 := by
    intro Q w
    refine bt_it hC (0) v (by decide +kernel) (by decide +kernel) ?_
    refine bt_it hC (1) v (by decide +kernel) (by decide +kernel) ?_
    refine bt_it hC (2) v (by decide +kernel) (by decide +kernel) ?_
    refine bt_it hC (3) v (by decide +kernel) (by decide +kernel) ?_
    refine bt_it hC (4) v (by decide +kernel) (by decide +kernel) ?_
    refine bt_it hC (5) v (by decide +kernel) (by decide +kernel) ?_
    refine bt_it hC (6) v (by decide +kernel) (by decide +kernel) ?_
    refine bt_it hC (7) v (by decide +kernel) (by decide +kernel) ?_
    refine bt_it hC (8) v (by decide +kernel) (by decide +kernel) ?_
    refine bt_it hC (9) v (by decide +kernel) (by decide +kernel) ?_
    refine bt_it hC (10) v (by decide +kernel) (by decide +kernel) ?_
    refine bt_it hC (11) v (by decide +kernel) (by decide +kernel) ?_
    refine bt_it hC (12) v (by decide +kernel) (by decide +kernel) ?_
    refine bt_it hC (13) v (by decide +kernel) (by decide +kernel) ?_
    refine bt_it hC (14) v (by decide +kernel) (by decide +kernel) ?_
    refine bt_it hC (15) v (by decide +kernel) (by decide +kernel) ?_
    refine bt_it hC (16) v (by decide +kernel) (by decide +kernel) ?_
    refine bt_it hC (17) v (by decide +kernel) (by decide +kernel) ?_
    refine bt_it hC (18) v (by decide +kernel) (by decide +kernel) ?_
    refine bt_it hC (19) v (by decide +kernel) (by decide +kernel) ?_
    refine bt_it hC (20) v (by decide +kernel) (by decide +kernel) ?_
    exact w
  refine wk_s hR hC MM_val rfl rfl (KW_ok ?_)
  refine wk_s hR hC MM_val rfl rfl (KW_ok ?_)
  refine wk_s hR hC MM_val rfl rfl (KW_ok ?_)
  refine wk_s hR hC MM_val rfl rfl (KW_ok ?_)
  refine hh _ ?_
  refine wk_s hR hC MM_val rfl rfl (KW_ok ?_)
  refine wk_s hR hC MM_val rfl rfl (KW_ok ?_)
  refine wk_s hR hC MM_val rfl rfl (KW_ok ?_)
  refine wk_cT (by decide +kernel) ?_
  refine wk_s hR hC MM_val rfl rfl (KW_ok ?_)
  exact wk_r hR hC MM_val rfl rfl rfl
set_option maxRecDepth 100000 in
set_option maxHeartbeats 4000000 in
theorem cx_fitAt (l : Launch) (b : Nat) (en ac : Nat → Nat) (D : va_G) (d : Nat) (v : Int32) : ev_M l b en ac D MM (d + 2) 18 [.ref 0, .int v] ev_hB (some (.int (-1)), ev_hB) := by
  refine ev_mk (by decide +kernel) (Nat.le_of_ble_eq_true rfl) (fun p e s m args below meth c hC => ?_)
  have hR := ev_rmR MM (d + 1) 18
  refine wk_s hR hC MM_val rfl rfl (KW_ok ?_)
  refine wk_s hR hC MM_val rfl rfl (KW_ok ?_)
  refine wk_s hR hC MM_val rfl rfl (KW_ok ?_)
  refine wk_S (As := [.int 0, .int v]) (rest := []) hR hC MM_val rfl (by decide) (cx_bitAt l b en ac D d v) rfl rfl (Nat.le_of_ble_eq_true rfl) ⟨Nat.le_refl _, Nat.le_refl _⟩ ?_
  simp only [Option.toList, List.cons_append, List.nil_append]
  exact wk_r hR hC MM_val rfl rfl rfl
