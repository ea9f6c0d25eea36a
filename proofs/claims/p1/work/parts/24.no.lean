/-! ===== calls with any ints on fresh objects: nobody is there ===== -/
set_option maxRecDepth 100000 in
set_option maxHeartbeats 8000000 in
theorem cx_skill (l : Launch) (b : Nat) (en ac : Nat → Nat) (D : va_G) (d : Nat) (z z2 : Int32) : ev_M l b en ac D MM (d + 2) 36 [.ref 0, .int z, .int z2] ev_hB (some (.int (-1)), ev_hB) := by
  refine ev_mk (by decide +kernel) (Nat.le_of_ble_eq_true rfl) (fun p e s m args below meth c hC => ?_)
  have hR := ev_rmR MM (d + 1) 36
  repeat (refine wk_s hR hC MM_val rfl rfl (KW_ok ?_); try dsimp only; first | (refine wk_pT ?_ ?_; focus rfl) | (refine wk_pF ?_ ?_; focus rfl) | skip)
  refine wk_V (z := 0) (As := [.int z]) hR hC MM_val rfl (by decide) (xp_no l b en ac D d z) rfl rfl rfl (Nat.le_of_ble_eq_true rfl) ⟨Nat.le_refl _, Nat.le_refl _⟩ ?_
  simp only [Option.toList, List.cons_append, List.nil_append]
  repeat (refine wk_s hR hC MM_val rfl rfl (KW_ok ?_); try dsimp only; first | (refine wk_pT ?_ ?_; focus rfl) | (refine wk_pF ?_ ?_; focus rfl) | skip)
  exact wk_r hR hC MM_val rfl rfl rfl

set_option maxRecDepth 100000 in
set_option maxHeartbeats 8000000 in
theorem cm_skill (l : Launch) (b : Nat) (en ac : Nat → Nat) (D : va_G) (d : Nat) (z z2 : Int32) : ev_M l b en ac D MM (d + 3) 148 [.ref 180, .int z, .int z2] ev_hB (some (.int (-1)), ev_hB) := by
  refine ev_mk (by decide +kernel) (Nat.le_of_ble_eq_true rfl) (fun p e s m args below meth c hC => ?_)
  have hR := ev_rmR MM (d + 2) 148
  repeat (refine wk_s hR hC MM_val rfl rfl (KW_ok ?_); try dsimp only; first | (refine wk_pT ?_ ?_; focus rfl) | (refine wk_pF ?_ ?_; focus rfl) | skip)
  refine wk_heap ev_hB (by decide +kernel) ?_
  refine wk_V (z := 180) (As := [.int z]) hR hC MM_val rfl (by decide) (mp_no l b en ac D d z) rfl rfl rfl (Nat.le_of_ble_eq_true rfl) ⟨Nat.le_refl _, Nat.le_refl _⟩ ?_
  simp only [Option.toList, List.cons_append, List.nil_append]
  repeat (refine wk_s hR hC MM_val rfl rfl (KW_ok ?_); try dsimp only; first | (refine wk_pT ?_ ?_; focus rfl) | (refine wk_pF ?_ ?_; focus rfl) | skip)
  exact wk_r hR hC MM_val rfl rfl rfl

set_option maxRecDepth 100000 in
set_option maxHeartbeats 8000000 in
theorem cx_deed (l : Launch) (b : Nat) (en ac : Nat → Nat) (D : va_G) (d : Nat) (z z2 : Int32) : ev_M l b en ac D MM (d + 2) 10 [.ref 0, .int z, .int z2] ev_hB (some (.int (-1)), ev_hB) := by
  refine ev_mk (by decide +kernel) (Nat.le_of_ble_eq_true rfl) (fun p e s m args below meth c hC => ?_)
  have hR := ev_rmR MM (d + 1) 10
  repeat (refine wk_s hR hC MM_val rfl rfl (KW_ok ?_); try dsimp only; first | (refine wk_pT ?_ ?_; focus rfl) | (refine wk_pF ?_ ?_; focus rfl) | skip)
  refine wk_V (z := 0) (As := [.int z]) hR hC MM_val rfl (by decide) (xd_no l b en ac D d z) rfl rfl rfl (Nat.le_of_ble_eq_true rfl) ⟨Nat.le_refl _, Nat.le_refl _⟩ ?_
  simp only [Option.toList, List.cons_append, List.nil_append]
  repeat (refine wk_s hR hC MM_val rfl rfl (KW_ok ?_); try dsimp only; first | (refine wk_pT ?_ ?_; focus rfl) | (refine wk_pF ?_ ?_; focus rfl) | skip)
  exact wk_r hR hC MM_val rfl rfl rfl

set_option maxRecDepth 100000 in
set_option maxHeartbeats 8000000 in
theorem cm_deed (l : Launch) (b : Nat) (en ac : Nat → Nat) (D : va_G) (d : Nat) (z z2 : Int32) : ev_M l b en ac D MM (d + 3) 105 [.ref 180, .int z, .int z2] ev_hB (some (.int (-1)), ev_hB) := by
  refine ev_mk (by decide +kernel) (Nat.le_of_ble_eq_true rfl) (fun p e s m args below meth c hC => ?_)
  have hR := ev_rmR MM (d + 2) 105
  repeat (refine wk_s hR hC MM_val rfl rfl (KW_ok ?_); try dsimp only; first | (refine wk_pT ?_ ?_; focus rfl) | (refine wk_pF ?_ ?_; focus rfl) | skip)
  refine wk_heap ev_hB (by decide +kernel) ?_
  refine wk_V (z := 180) (As := [.int z]) hR hC MM_val rfl (by decide) (md_no l b en ac D d z) rfl rfl rfl (Nat.le_of_ble_eq_true rfl) ⟨Nat.le_refl _, Nat.le_refl _⟩ ?_
  simp only [Option.toList, List.cons_append, List.nil_append]
  repeat (refine wk_s hR hC MM_val rfl rfl (KW_ok ?_); try dsimp only; first | (refine wk_pT ?_ ?_; focus rfl) | (refine wk_pF ?_ ?_; focus rfl) | skip)
  exact wk_r hR hC MM_val rfl rfl rfl

set_option maxRecDepth 100000 in
set_option maxHeartbeats 8000000 in
theorem cx_does (l : Launch) (b : Nat) (en ac : Nat → Nat) (D : va_G) (d : Nat) (z z2 z3 : Int32) : ev_M l b en ac D MM (d + 2) 11 [.ref 0, .int z, .int z2, .int z3] ev_hB (some (.int (-1)), ev_hB) := by
  refine ev_mk (by decide +kernel) (Nat.le_of_ble_eq_true rfl) (fun p e s m args below meth c hC => ?_)
  have hR := ev_rmR MM (d + 1) 11
  repeat (refine wk_s hR hC MM_val rfl rfl (KW_ok ?_); try dsimp only; first | (refine wk_pT ?_ ?_; focus rfl) | (refine wk_pF ?_ ?_; focus rfl) | skip)
  refine wk_V (z := 0) (As := [.int z]) hR hC MM_val rfl (by decide) (xp_no l b en ac D d z) rfl rfl rfl (Nat.le_of_ble_eq_true rfl) ⟨Nat.le_refl _, Nat.le_refl _⟩ ?_
  simp only [Option.toList, List.cons_append, List.nil_append]
  repeat (refine wk_s hR hC MM_val rfl rfl (KW_ok ?_); try dsimp only; first | (refine wk_pT ?_ ?_; focus rfl) | (refine wk_pF ?_ ?_; focus rfl) | skip)
  exact wk_r hR hC MM_val rfl rfl rfl

set_option maxRecDepth 100000 in
set_option maxHeartbeats 8000000 in
theorem cm_does (l : Launch) (b : Nat) (en ac : Nat → Nat) (D : va_G) (d : Nat) (z z2 z3 : Int32) : ev_M l b en ac D MM (d + 3) 106 [.ref 180, .int z, .int z2, .int z3] ev_hB (some (.int (-1)), ev_hB) := by
  refine ev_mk (by decide +kernel) (Nat.le_of_ble_eq_true rfl) (fun p e s m args below meth c hC => ?_)
  have hR := ev_rmR MM (d + 2) 106
  repeat (refine wk_s hR hC MM_val rfl rfl (KW_ok ?_); try dsimp only; first | (refine wk_pT ?_ ?_; focus rfl) | (refine wk_pF ?_ ?_; focus rfl) | skip)
  refine wk_heap ev_hB (by decide +kernel) ?_
  refine wk_V (z := 180) (As := [.int z]) hR hC MM_val rfl (by decide) (mp_no l b en ac D d z) rfl rfl rfl (Nat.le_of_ble_eq_true rfl) ⟨Nat.le_refl _, Nat.le_refl _⟩ ?_
  simp only [Option.toList, List.cons_append, List.nil_append]
  repeat (refine wk_s hR hC MM_val rfl rfl (KW_ok ?_); try dsimp only; first | (refine wk_pT ?_ ?_; focus rfl) | (refine wk_pF ?_ ?_; focus rfl) | skip)
  refine wk_V (z := 180) (rest := []) hR hC MM_val rfl (by decide) (ma_no l b en ac D (d + 1) 0 z z2 z3) rfl rfl rfl (Nat.le_of_ble_eq_true rfl) ⟨Nat.le_refl _, Nat.le_refl _⟩ ?_
  simp only [Option.toList, List.cons_append, List.nil_append]
  repeat (refine wk_s hR hC MM_val rfl rfl (KW_ok ?_); try dsimp only; first | (refine wk_pT ?_ ?_; focus rfl) | (refine wk_pF ?_ ?_; focus rfl) | skip)
  exact wk_r hR hC MM_val rfl rfl rfl

set_option maxRecDepth 100000 in
set_option maxHeartbeats 8000000 in
theorem cx_wed (l : Launch) (b : Nat) (en ac : Nat → Nat) (D : va_G) (d : Nat) (z z2 : Int32) : ev_M l b en ac D MM (d + 2) 42 [.ref 0, .int z, .int z2] ev_hB (some (.int (-1)), ev_hB) := by
  refine ev_mk (by decide +kernel) (Nat.le_of_ble_eq_true rfl) (fun p e s m args below meth c hC => ?_)
  have hR := ev_rmR MM (d + 1) 42
  repeat (refine wk_s hR hC MM_val rfl rfl (KW_ok ?_); try dsimp only; first | (refine wk_pT ?_ ?_; focus rfl) | (refine wk_pF ?_ ?_; focus rfl) | skip)
  refine wk_V (z := 0) (As := [.int z]) hR hC MM_val rfl (by decide) (xp_no l b en ac D d z) rfl rfl rfl (Nat.le_of_ble_eq_true rfl) ⟨Nat.le_refl _, Nat.le_refl _⟩ ?_
  simp only [Option.toList, List.cons_append, List.nil_append]
  repeat (refine wk_s hR hC MM_val rfl rfl (KW_ok ?_); try dsimp only; first | (refine wk_pT ?_ ?_; focus rfl) | (refine wk_pF ?_ ?_; focus rfl) | skip)
  exact wk_r hR hC MM_val rfl rfl rfl

set_option maxRecDepth 100000 in
set_option maxHeartbeats 8000000 in
theorem cm_wed (l : Launch) (b : Nat) (en ac : Nat → Nat) (D : va_G) (d : Nat) (z z2 : Int32) : ev_M l b en ac D MM (d + 3) 158 [.ref 180, .int z, .int z2] ev_hB (some (.int (-1)), ev_hB) := by
  refine ev_mk (by decide +kernel) (Nat.le_of_ble_eq_true rfl) (fun p e s m args below meth c hC => ?_)
  have hR := ev_rmR MM (d + 2) 158
  repeat (refine wk_s hR hC MM_val rfl rfl (KW_ok ?_); try dsimp only; first | (refine wk_pT ?_ ?_; focus rfl) | (refine wk_pF ?_ ?_; focus rfl) | skip)
  refine wk_heap ev_hB (by decide +kernel) ?_
  refine wk_V (z := 180) (As := [.int z]) hR hC MM_val rfl (by decide) (mp_no l b en ac D d z) rfl rfl rfl (Nat.le_of_ble_eq_true rfl) ⟨Nat.le_refl _, Nat.le_refl _⟩ ?_
  simp only [Option.toList, List.cons_append, List.nil_append]
  repeat (refine wk_s hR hC MM_val rfl rfl (KW_ok ?_); try dsimp only; first | (refine wk_pT ?_ ?_; focus rfl) | (refine wk_pF ?_ ?_; focus rfl) | skip)
  refine wk_V (z := 180) (rest := []) hR hC MM_val rfl (by decide) (ma_no l b en ac D (d + 1) 1 z z2 0) rfl rfl rfl (Nat.le_of_ble_eq_true rfl) ⟨Nat.le_refl _, Nat.le_refl _⟩ ?_
  simp only [Option.toList, List.cons_append, List.nil_append]
  repeat (refine wk_s hR hC MM_val rfl rfl (KW_ok ?_); try dsimp only; first | (refine wk_pT ?_ ?_; focus rfl) | (refine wk_pF ?_ ?_; focus rfl) | skip)
  exact wk_r hR hC MM_val rfl rfl rfl

set_option maxRecDepth 100000 in
set_option maxHeartbeats 8000000 in
theorem cx_part (l : Launch) (b : Nat) (en ac : Nat → Nat) (D : va_G) (d : Nat) (z : Int32) : ev_M l b en ac D MM (d + 2) 29 [.ref 0, .int z] ev_hB (some (.int (-1)), ev_hB) := by
  refine ev_mk (by decide +kernel) (Nat.le_of_ble_eq_true rfl) (fun p e s m args below meth c hC => ?_)
  have hR := ev_rmR MM (d + 1) 29
  repeat (refine wk_s hR hC MM_val rfl rfl (KW_ok ?_); try dsimp only; first | (refine wk_pT ?_ ?_; focus rfl) | (refine wk_pF ?_ ?_; focus rfl) | skip)
  refine wk_V (z := 0) (As := [.int z]) hR hC MM_val rfl (by decide) (xp_no l b en ac D d z) rfl rfl rfl (Nat.le_of_ble_eq_true rfl) ⟨Nat.le_refl _, Nat.le_refl _⟩ ?_
  simp only [Option.toList, List.cons_append, List.nil_append]
  repeat (refine wk_s hR hC MM_val rfl rfl (KW_ok ?_); try dsimp only; first | (refine wk_pT ?_ ?_; focus rfl) | (refine wk_pF ?_ ?_; focus rfl) | skip)
  exact wk_r hR hC MM_val rfl rfl rfl

set_option maxRecDepth 100000 in
set_option maxHeartbeats 8000000 in
theorem cm_part (l : Launch) (b : Nat) (en ac : Nat → Nat) (D : va_G) (d : Nat) (z : Int32) : ev_M l b en ac D MM (d + 3) 135 [.ref 180, .int z] ev_hB (some (.int (-1)), ev_hB) := by
  refine ev_mk (by decide +kernel) (Nat.le_of_ble_eq_true rfl) (fun p e s m args below meth c hC => ?_)
  have hR := ev_rmR MM (d + 2) 135
  repeat (refine wk_s hR hC MM_val rfl rfl (KW_ok ?_); try dsimp only; first | (refine wk_pT ?_ ?_; focus rfl) | (refine wk_pF ?_ ?_; focus rfl) | skip)
  refine wk_heap ev_hB (by decide +kernel) ?_
  refine wk_V (z := 180) (As := [.int z]) hR hC MM_val rfl (by decide) (mp_no l b en ac D d z) rfl rfl rfl (Nat.le_of_ble_eq_true rfl) ⟨Nat.le_refl _, Nat.le_refl _⟩ ?_
  simp only [Option.toList, List.cons_append, List.nil_append]
  repeat (refine wk_s hR hC MM_val rfl rfl (KW_ok ?_); try dsimp only; first | (refine wk_pT ?_ ?_; focus rfl) | (refine wk_pF ?_ ?_; focus rfl) | skip)
  refine wk_V (z := 180) (rest := []) hR hC MM_val rfl (by decide) (ma_no l b en ac D (d + 1) 2 z 0 0) rfl rfl rfl (Nat.le_of_ble_eq_true rfl) ⟨Nat.le_refl _, Nat.le_refl _⟩ ?_
  simp only [Option.toList, List.cons_append, List.nil_append]
  repeat (refine wk_s hR hC MM_val rfl rfl (KW_ok ?_); try dsimp only; first | (refine wk_pT ?_ ?_; focus rfl) | (refine wk_pF ?_ ?_; focus rfl) | skip)
  exact wk_r hR hC MM_val rfl rfl rfl

set_option maxRecDepth 100000 in
set_option maxHeartbeats 8000000 in
theorem cx_glove (l : Launch) (b : Nat) (en ac : Nat → Nat) (D : va_G) (d : Nat) (z : Int32) : ev_M l b en ac D MM (d + 2) 20 [.ref 0, .int z] ev_hB (some (.int (-1)), ev_hB) := by
  refine ev_mk (by decide +kernel) (Nat.le_of_ble_eq_true rfl) (fun p e s m args below meth c hC => ?_)
  have hR := ev_rmR MM (d + 1) 20
  repeat (refine wk_s hR hC MM_val rfl rfl (KW_ok ?_); try dsimp only; first | (refine wk_pT ?_ ?_; focus rfl) | (refine wk_pF ?_ ?_; focus rfl) | skip)
  refine wk_V (z := 0) (As := [.int z]) hR hC MM_val rfl (by decide) (xp_no l b en ac D d z) rfl rfl rfl (Nat.le_of_ble_eq_true rfl) ⟨Nat.le_refl _, Nat.le_refl _⟩ ?_
  simp only [Option.toList, List.cons_append, List.nil_append]
  repeat (refine wk_s hR hC MM_val rfl rfl (KW_ok ?_); try dsimp only; first | (refine wk_pT ?_ ?_; focus rfl) | (refine wk_pF ?_ ?_; focus rfl) | skip)
  exact wk_r hR hC MM_val rfl rfl rfl

set_option maxRecDepth 100000 in
set_option maxHeartbeats 8000000 in
theorem cm_glove (l : Launch) (b : Nat) (en ac : Nat → Nat) (D : va_G) (d : Nat) (z : Int32) : ev_M l b en ac D MM (d + 3) 115 [.ref 180, .int z] ev_hB (some (.int (-1)), ev_hB) := by
  refine ev_mk (by decide +kernel) (Nat.le_of_ble_eq_true rfl) (fun p e s m args below meth c hC => ?_)
  have hR := ev_rmR MM (d + 2) 115
  repeat (refine wk_s hR hC MM_val rfl rfl (KW_ok ?_); try dsimp only; first | (refine wk_pT ?_ ?_; focus rfl) | (refine wk_pF ?_ ?_; focus rfl) | skip)
  refine wk_heap ev_hB (by decide +kernel) ?_
  refine wk_V (z := 180) (As := [.int z]) hR hC MM_val rfl (by decide) (mp_no l b en ac D d z) rfl rfl rfl (Nat.le_of_ble_eq_true rfl) ⟨Nat.le_refl _, Nat.le_refl _⟩ ?_
  simp only [Option.toList, List.cons_append, List.nil_append]
  repeat (refine wk_s hR hC MM_val rfl rfl (KW_ok ?_); try dsimp only; first | (refine wk_pT ?_ ?_; focus rfl) | (refine wk_pF ?_ ?_; focus rfl) | skip)
  refine wk_V (z := 180) (rest := []) hR hC MM_val rfl (by decide) (ma_no l b en ac D (d + 1) 3 z 0 0) rfl rfl rfl (Nat.le_of_ble_eq_true rfl) ⟨Nat.le_refl _, Nat.le_refl _⟩ ?_
  simp only [Option.toList, List.cons_append, List.nil_append]
  repeat (refine wk_s hR hC MM_val rfl rfl (KW_ok ?_); try dsimp only; first | (refine wk_pT ?_ ?_; focus rfl) | (refine wk_pF ?_ ?_; focus rfl) | skip)
  exact wk_r hR hC MM_val rfl rfl rfl

set_option maxRecDepth 100000 in
set_option maxHeartbeats 8000000 in
theorem cx_bare (l : Launch) (b : Nat) (en ac : Nat → Nat) (D : va_G) (d : Nat) (z : Int32) : ev_M l b en ac D MM (d + 2) 2 [.ref 0, .int z] ev_hB (some (.int (-1)), ev_hB) := by
  refine ev_mk (by decide +kernel) (Nat.le_of_ble_eq_true rfl) (fun p e s m args below meth c hC => ?_)
  have hR := ev_rmR MM (d + 1) 2
  repeat (refine wk_s hR hC MM_val rfl rfl (KW_ok ?_); try dsimp only; first | (refine wk_pT ?_ ?_; focus rfl) | (refine wk_pF ?_ ?_; focus rfl) | skip)
  refine wk_V (z := 0) (As := [.int z]) hR hC MM_val rfl (by decide) (xp_no l b en ac D d z) rfl rfl rfl (Nat.le_of_ble_eq_true rfl) ⟨Nat.le_refl _, Nat.le_refl _⟩ ?_
  simp only [Option.toList, List.cons_append, List.nil_append]
  repeat (refine wk_s hR hC MM_val rfl rfl (KW_ok ?_); try dsimp only; first | (refine wk_pT ?_ ?_; focus rfl) | (refine wk_pF ?_ ?_; focus rfl) | skip)
  exact wk_r hR hC MM_val rfl rfl rfl

set_option maxRecDepth 100000 in
set_option maxHeartbeats 8000000 in
theorem cm_bare (l : Launch) (b : Nat) (en ac : Nat → Nat) (D : va_G) (d : Nat) (z : Int32) : ev_M l b en ac D MM (d + 3) 95 [.ref 180, .int z] ev_hB (some (.int (-1)), ev_hB) := by
  refine ev_mk (by decide +kernel) (Nat.le_of_ble_eq_true rfl) (fun p e s m args below meth c hC => ?_)
  have hR := ev_rmR MM (d + 2) 95
  repeat (refine wk_s hR hC MM_val rfl rfl (KW_ok ?_); try dsimp only; first | (refine wk_pT ?_ ?_; focus rfl) | (refine wk_pF ?_ ?_; focus rfl) | skip)
  refine wk_heap ev_hB (by decide +kernel) ?_
  refine wk_V (z := 180) (As := [.int z]) hR hC MM_val rfl (by decide) (mp_no l b en ac D d z) rfl rfl rfl (Nat.le_of_ble_eq_true rfl) ⟨Nat.le_refl _, Nat.le_refl _⟩ ?_
  simp only [Option.toList, List.cons_append, List.nil_append]
  repeat (refine wk_s hR hC MM_val rfl rfl (KW_ok ?_); try dsimp only; first | (refine wk_pT ?_ ?_; focus rfl) | (refine wk_pF ?_ ?_; focus rfl) | skip)
  refine wk_V (z := 180) (rest := []) hR hC MM_val rfl (by decide) (ma_no l b en ac D (d + 1) 4 z 0 0) rfl rfl rfl (Nat.le_of_ble_eq_true rfl) ⟨Nat.le_refl _, Nat.le_refl _⟩ ?_
  simp only [Option.toList, List.cons_append, List.nil_append]
  repeat (refine wk_s hR hC MM_val rfl rfl (KW_ok ?_); try dsimp only; first | (refine wk_pT ?_ ?_; focus rfl) | (refine wk_pF ?_ ?_; focus rfl) | skip)
  exact wk_r hR hC MM_val rfl rfl rfl

set_option maxRecDepth 100000 in
set_option maxHeartbeats 8000000 in
theorem cx_able (l : Launch) (b : Nat) (en ac : Nat → Nat) (D : va_G) (d : Nat) (z z2 : Int32) : ev_M l b en ac D MM (d + 2) 1 [.ref 0, .int z, .int z2] ev_hB (some (.int (-1)), ev_hB) := by
  refine ev_mk (by decide +kernel) (Nat.le_of_ble_eq_true rfl) (fun p e s m args below meth c hC => ?_)
  have hR := ev_rmR MM (d + 1) 1
  repeat (refine wk_s hR hC MM_val rfl rfl (KW_ok ?_); try dsimp only; first | (refine wk_pT ?_ ?_; focus rfl) | (refine wk_pF ?_ ?_; focus rfl) | skip)
  refine wk_V (z := 0) (As := [.int z]) hR hC MM_val rfl (by decide) (xp_no l b en ac D d z) rfl rfl rfl (Nat.le_of_ble_eq_true rfl) ⟨Nat.le_refl _, Nat.le_refl _⟩ ?_
  simp only [Option.toList, List.cons_append, List.nil_append]
  repeat (refine wk_s hR hC MM_val rfl rfl (KW_ok ?_); try dsimp only; first | (refine wk_pT ?_ ?_; focus rfl) | (refine wk_pF ?_ ?_; focus rfl) | skip)
  exact wk_r hR hC MM_val rfl rfl rfl

set_option maxRecDepth 100000 in
set_option maxHeartbeats 8000000 in
theorem cm_able (l : Launch) (b : Nat) (en ac : Nat → Nat) (D : va_G) (d : Nat) (z z2 : Int32) : ev_M l b en ac D MM (d + 3) 92 [.ref 180, .int z, .int z2] ev_hB (some (.int (-1)), ev_hB) := by
  refine ev_mk (by decide +kernel) (Nat.le_of_ble_eq_true rfl) (fun p e s m args below meth c hC => ?_)
  have hR := ev_rmR MM (d + 2) 92
  repeat (refine wk_s hR hC MM_val rfl rfl (KW_ok ?_); try dsimp only; first | (refine wk_pT ?_ ?_; focus rfl) | (refine wk_pF ?_ ?_; focus rfl) | skip)
  refine wk_heap ev_hB (by decide +kernel) ?_
  refine wk_V (z := 180) (As := [.int z]) hR hC MM_val rfl (by decide) (mp_no l b en ac D d z) rfl rfl rfl (Nat.le_of_ble_eq_true rfl) ⟨Nat.le_refl _, Nat.le_refl _⟩ ?_
  simp only [Option.toList, List.cons_append, List.nil_append]
  repeat (refine wk_s hR hC MM_val rfl rfl (KW_ok ?_); try dsimp only; first | (refine wk_pT ?_ ?_; focus rfl) | (refine wk_pF ?_ ?_; focus rfl) | skip)
  exact wk_r hR hC MM_val rfl rfl rfl

set_option maxRecDepth 100000 in
set_option maxHeartbeats 8000000 in
theorem cx_hears (l : Launch) (b : Nat) (en ac : Nat → Nat) (D : va_G) (d : Nat) (z z2 : Int32) : ev_M l b en ac D MM (d + 2) 23 [.ref 0, .int z, .int z2] ev_hB (some (.int (-1)), ev_hB) := by
  refine ev_mk (by decide +kernel) (Nat.le_of_ble_eq_true rfl) (fun p e s m args below meth c hC => ?_)
  have hR := ev_rmR MM (d + 1) 23
  repeat (refine wk_s hR hC MM_val rfl rfl (KW_ok ?_); try dsimp only; first | (refine wk_pT ?_ ?_; focus rfl) | (refine wk_pF ?_ ?_; focus rfl) | skip)
  refine wk_V (z := 0) (As := [.int z]) hR hC MM_val rfl (by decide) (xp_no l b en ac D d z) rfl rfl rfl (Nat.le_of_ble_eq_true rfl) ⟨Nat.le_refl _, Nat.le_refl _⟩ ?_
  simp only [Option.toList, List.cons_append, List.nil_append]
  repeat (refine wk_s hR hC MM_val rfl rfl (KW_ok ?_); try dsimp only; first | (refine wk_pT ?_ ?_; focus rfl) | (refine wk_pF ?_ ?_; focus rfl) | skip)
  exact wk_r hR hC MM_val rfl rfl rfl

set_option maxRecDepth 100000 in
set_option maxHeartbeats 8000000 in
theorem cm_hears (l : Launch) (b : Nat) (en ac : Nat → Nat) (D : va_G) (d : Nat) (z z2 : Int32) : ev_M l b en ac D MM (d + 3) 120 [.ref 180, .int z, .int z2] ev_hB (some (.int (-1)), ev_hB) := by
  refine ev_mk (by decide +kernel) (Nat.le_of_ble_eq_true rfl) (fun p e s m args below meth c hC => ?_)
  have hR := ev_rmR MM (d + 2) 120
  repeat (refine wk_s hR hC MM_val rfl rfl (KW_ok ?_); try dsimp only; first | (refine wk_pT ?_ ?_; focus rfl) | (refine wk_pF ?_ ?_; focus rfl) | skip)
  refine wk_heap ev_hB (by decide +kernel) ?_
  refine wk_V (z := 180) (As := [.int z]) hR hC MM_val rfl (by decide) (mp_no l b en ac D d z) rfl rfl rfl (Nat.le_of_ble_eq_true rfl) ⟨Nat.le_refl _, Nat.le_refl _⟩ ?_
  simp only [Option.toList, List.cons_append, List.nil_append]
  repeat (refine wk_s hR hC MM_val rfl rfl (KW_ok ?_); try dsimp only; first | (refine wk_pT ?_ ?_; focus rfl) | (refine wk_pF ?_ ?_; focus rfl) | skip)
  exact wk_r hR hC MM_val rfl rfl rfl

set_option maxRecDepth 100000 in
set_option maxHeartbeats 8000000 in
theorem cx_bestOf (l : Launch) (b : Nat) (en ac : Nat → Nat) (D : va_G) (d : Nat) (z : Int32) : ev_M l b en ac D MM (d + 2) 4 [.ref 0, .int z] ev_hB (some (.int (-1)), ev_hB) := by
  refine ev_mk (by decide +kernel) (Nat.le_of_ble_eq_true rfl) (fun p e s m args below meth c hC => ?_)
  have hR := ev_rmR MM (d + 1) 4
  repeat (refine wk_s hR hC MM_val rfl rfl (KW_ok ?_); try dsimp only; first | (refine wk_pT ?_ ?_; focus rfl) | (refine wk_pF ?_ ?_; focus rfl) | skip)
  refine wk_V (z := 0) (As := [.int z]) hR hC MM_val rfl (by decide) (xp_no l b en ac D d z) rfl rfl rfl (Nat.le_of_ble_eq_true rfl) ⟨Nat.le_refl _, Nat.le_refl _⟩ ?_
  simp only [Option.toList, List.cons_append, List.nil_append]
  repeat (refine wk_s hR hC MM_val rfl rfl (KW_ok ?_); try dsimp only; first | (refine wk_pT ?_ ?_; focus rfl) | (refine wk_pF ?_ ?_; focus rfl) | skip)
  exact wk_r hR hC MM_val rfl rfl rfl

set_option maxRecDepth 100000 in
set_option maxHeartbeats 8000000 in
theorem cm_bestOf (l : Launch) (b : Nat) (en ac : Nat → Nat) (D : va_G) (d : Nat) (z : Int32) : ev_M l b en ac D MM (d + 1) 98 [.ref 180, .int z] ev_hB (some (.int (-1)), ev_hB) := by
  refine ev_mk (by decide +kernel) (Nat.le_of_ble_eq_true rfl) (fun p e s m args below meth c hC => ?_)
  have hR := ev_rmR MM d 98
  repeat (refine wk_s hR hC MM_val rfl rfl (KW_ok ?_); try dsimp only; first | (refine wk_pT ?_ ?_; focus rfl) | (refine wk_pF ?_ ?_; focus rfl) | skip)
  refine wk_heap ev_hB (by decide +kernel) ?_
  exact wk_r hR hC MM_val rfl rfl rfl

set_option maxRecDepth 100000 in
set_option maxHeartbeats 8000000 in
theorem cx_earns (l : Launch) (b : Nat) (en ac : Nat → Nat) (D : va_G) (d : Nat) (z : Int32) : ev_M l b en ac D MM (d + 2) 14 [.ref 0, .int z] ev_hB (some (.int (-1)), ev_hB) := by
  refine ev_mk (by decide +kernel) (Nat.le_of_ble_eq_true rfl) (fun p e s m args below meth c hC => ?_)
  have hR := ev_rmR MM (d + 1) 14
  repeat (refine wk_s hR hC MM_val rfl rfl (KW_ok ?_); try dsimp only; first | (refine wk_pT ?_ ?_; focus rfl) | (refine wk_pF ?_ ?_; focus rfl) | skip)
  refine wk_V (z := 0) (As := [.int z]) hR hC MM_val rfl (by decide) (xp_no l b en ac D d z) rfl rfl rfl (Nat.le_of_ble_eq_true rfl) ⟨Nat.le_refl _, Nat.le_refl _⟩ ?_
  simp only [Option.toList, List.cons_append, List.nil_append]
  repeat (refine wk_s hR hC MM_val rfl rfl (KW_ok ?_); try dsimp only; first | (refine wk_pT ?_ ?_; focus rfl) | (refine wk_pF ?_ ?_; focus rfl) | skip)
  exact wk_r hR hC MM_val rfl rfl rfl

set_option maxRecDepth 100000 in
set_option maxHeartbeats 8000000 in
theorem cm_earns (l : Launch) (b : Nat) (en ac : Nat → Nat) (D : va_G) (d : Nat) (z : Int32) : ev_M l b en ac D MM (d + 3) 109 [.ref 180, .int z] ev_hB (some (.int (-1)), ev_hB) := by
  refine ev_mk (by decide +kernel) (Nat.le_of_ble_eq_true rfl) (fun p e s m args below meth c hC => ?_)
  have hR := ev_rmR MM (d + 2) 109
  repeat (refine wk_s hR hC MM_val rfl rfl (KW_ok ?_); try dsimp only; first | (refine wk_pT ?_ ?_; focus rfl) | (refine wk_pF ?_ ?_; focus rfl) | skip)
  refine wk_heap ev_hB (by decide +kernel) ?_
  refine wk_V (z := 180) (As := [.int z]) hR hC MM_val rfl (by decide) (mp_no l b en ac D d z) rfl rfl rfl (Nat.le_of_ble_eq_true rfl) ⟨Nat.le_refl _, Nat.le_refl _⟩ ?_
  simp only [Option.toList, List.cons_append, List.nil_append]
  repeat (refine wk_s hR hC MM_val rfl rfl (KW_ok ?_); try dsimp only; first | (refine wk_pT ?_ ?_; focus rfl) | (refine wk_pF ?_ ?_; focus rfl) | skip)
  exact wk_r hR hC MM_val rfl rfl rfl

set_option maxRecDepth 100000 in
set_option maxHeartbeats 8000000 in
theorem cx_slip (l : Launch) (b : Nat) (en ac : Nat → Nat) (D : va_G) (d : Nat) (z : Int32) : ev_M l b en ac D MM (d + 2) 37 [.ref 0, .int z] ev_hB (some (.int (-1)), ev_hB) := by
  refine ev_mk (by decide +kernel) (Nat.le_of_ble_eq_true rfl) (fun p e s m args below meth c hC => ?_)
  have hR := ev_rmR MM (d + 1) 37
  repeat (refine wk_s hR hC MM_val rfl rfl (KW_ok ?_); try dsimp only; first | (refine wk_pT ?_ ?_; focus rfl) | (refine wk_pF ?_ ?_; focus rfl) | skip)
  refine wk_V (z := 0) (As := [.int z]) hR hC MM_val rfl (by decide) (xp_no l b en ac D d z) rfl rfl rfl (Nat.le_of_ble_eq_true rfl) ⟨Nat.le_refl _, Nat.le_refl _⟩ ?_
  simp only [Option.toList, List.cons_append, List.nil_append]
  repeat (refine wk_s hR hC MM_val rfl rfl (KW_ok ?_); try dsimp only; first | (refine wk_pT ?_ ?_; focus rfl) | (refine wk_pF ?_ ?_; focus rfl) | skip)
  exact wk_r hR hC MM_val rfl rfl rfl

set_option maxRecDepth 100000 in
set_option maxHeartbeats 8000000 in
theorem cm_slip (l : Launch) (b : Nat) (en ac : Nat → Nat) (D : va_G) (d : Nat) (z : Int32) : ev_M l b en ac D MM (d + 3) 149 [.ref 180, .int z] ev_hB (some (.int (-1)), ev_hB) := by
  refine ev_mk (by decide +kernel) (Nat.le_of_ble_eq_true rfl) (fun p e s m args below meth c hC => ?_)
  have hR := ev_rmR MM (d + 2) 149
  repeat (refine wk_s hR hC MM_val rfl rfl (KW_ok ?_); try dsimp only; first | (refine wk_pT ?_ ?_; focus rfl) | (refine wk_pF ?_ ?_; focus rfl) | skip)
  refine wk_heap ev_hB (by decide +kernel) ?_
  refine wk_V (z := 180) (As := [.int z]) hR hC MM_val rfl (by decide) (mp_no l b en ac D d z) rfl rfl rfl (Nat.le_of_ble_eq_true rfl) ⟨Nat.le_refl _, Nat.le_refl _⟩ ?_
  simp only [Option.toList, List.cons_append, List.nil_append]
  repeat (refine wk_s hR hC MM_val rfl rfl (KW_ok ?_); try dsimp only; first | (refine wk_pT ?_ ?_; focus rfl) | (refine wk_pF ?_ ?_; focus rfl) | skip)
  exact wk_r hR hC MM_val rfl rfl rfl

set_option maxRecDepth 100000 in
set_option maxHeartbeats 8000000 in
theorem cx_odds (l : Launch) (b : Nat) (en ac : Nat → Nat) (D : va_G) (d : Nat) (z z2 z3 : Int32) : ev_M l b en ac D MM (d + 2) 28 [.ref 0, .int z, .int z2, .int z3] ev_hB (some (.int (-1)), ev_hB) := by
  refine ev_mk (by decide +kernel) (Nat.le_of_ble_eq_true rfl) (fun p e s m args below meth c hC => ?_)
  have hR := ev_rmR MM (d + 1) 28
  repeat (refine wk_s hR hC MM_val rfl rfl (KW_ok ?_); try dsimp only; first | (refine wk_pT ?_ ?_; focus rfl) | (refine wk_pF ?_ ?_; focus rfl) | skip)
  refine wk_V (z := 0) (As := [.int z]) hR hC MM_val rfl (by decide) (xp_no l b en ac D d z) rfl rfl rfl (Nat.le_of_ble_eq_true rfl) ⟨Nat.le_refl _, Nat.le_refl _⟩ ?_
  simp only [Option.toList, List.cons_append, List.nil_append]
  repeat (refine wk_s hR hC MM_val rfl rfl (KW_ok ?_); try dsimp only; first | (refine wk_pT ?_ ?_; focus rfl) | (refine wk_pF ?_ ?_; focus rfl) | skip)
  exact wk_r hR hC MM_val rfl rfl rfl

set_option maxRecDepth 100000 in
set_option maxHeartbeats 8000000 in
theorem cm_odds (l : Launch) (b : Nat) (en ac : Nat → Nat) (D : va_G) (d : Nat) (z z2 z3 : Int32) : ev_M l b en ac D MM (d + 3) 133 [.ref 180, .int z, .int z2, .int z3] ev_hB (some (.int (-1)), ev_hB) := by
  refine ev_mk (by decide +kernel) (Nat.le_of_ble_eq_true rfl) (fun p e s m args below meth c hC => ?_)
  have hR := ev_rmR MM (d + 2) 133
  repeat (refine wk_s hR hC MM_val rfl rfl (KW_ok ?_); try dsimp only; first | (refine wk_pT ?_ ?_; focus rfl) | (refine wk_pF ?_ ?_; focus rfl) | skip)
  refine wk_heap ev_hB (by decide +kernel) ?_
  refine wk_V (z := 180) (As := [.int z]) hR hC MM_val rfl (by decide) (mp_no l b en ac D d z) rfl rfl rfl (Nat.le_of_ble_eq_true rfl) ⟨Nat.le_refl _, Nat.le_refl _⟩ ?_
  simp only [Option.toList, List.cons_append, List.nil_append]
  repeat (refine wk_s hR hC MM_val rfl rfl (KW_ok ?_); try dsimp only; first | (refine wk_pT ?_ ?_; focus rfl) | (refine wk_pF ?_ ?_; focus rfl) | skip)
  exact wk_r hR hC MM_val rfl rfl rfl

