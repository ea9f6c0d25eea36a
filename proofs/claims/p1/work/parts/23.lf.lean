/-! ===== calls with any ints on fresh objects: leaves ===== -/
theorem wk_heap {p : Program} {l : Launch} {e : Env} {R : Room} {s : State} {m : MethodId} {args : Array Value} {below : List Frame} {meth : Method} {c : Code} {Q : State → Prop} {b : Nat} {en ac : Nat → Nat} {D : va_G} {M : MT} {mi pc k ks : Nat} {L : List (Nat × Value)} {st : List Value} {hp : List AE} (hp' : List AE) (h : hp_eq hp hp' = true) (w : Wk p l e R s m args below meth c b en ac D M mi Q pc L st hp' k ks) : Wk p l e R s m args below meth c b en ac D M mi Q pc L st hp k ks := by
  rw [hp_eq_ok h]; exact w
set_option maxRecDepth 100000 in
set_option maxHeartbeats 8000000 in
theorem xp_no (l : Launch) (b : Nat) (en ac : Nat → Nat) (D : va_G) (d : Nat) (z : Int32) : ev_M l b en ac D MM (d + 1) 26 [.ref 0, .int z] ev_hB (some (.int 0), ev_hB) := by
  refine ev_mk (by decide +kernel) (Nat.le_of_ble_eq_true rfl) (fun p e s m args below meth c hC => ?_)
  have hR := ev_rmR MM d 26
  repeat (refine wk_s hR hC MM_val rfl rfl (KW_ok ?_); try dsimp only; first | (refine wk_pT ?_ ?_; focus rfl) | (refine wk_pF ?_ ?_; focus rfl) | skip)
  by_cases h : z < 0
  · rw [if_pos h]
    repeat (refine wk_s hR hC MM_val rfl rfl (KW_ok ?_); try dsimp only; first | (refine wk_pT ?_ ?_; focus rfl) | (refine wk_pF ?_ ?_; focus rfl) | skip)
    exact wk_r hR hC MM_val rfl rfl rfl
  · rw [if_neg h]
    repeat (refine wk_s hR hC MM_val rfl rfl (KW_ok ?_); try dsimp only; first | (refine wk_pT ?_ ?_; focus rfl) | (refine wk_pF ?_ ?_; focus rfl) | skip)
    rw [if_pos (Int32.not_lt.mp h)]
    repeat (refine wk_s hR hC MM_val rfl rfl (KW_ok ?_); try dsimp only; first | (refine wk_pT ?_ ?_; focus rfl) | (refine wk_pF ?_ ?_; focus rfl) | skip)
    exact wk_r hR hC MM_val rfl rfl rfl

set_option maxRecDepth 100000 in
set_option maxHeartbeats 8000000 in
theorem xd_no (l : Launch) (b : Nat) (en ac : Nat → Nat) (D : va_G) (d : Nat) (z : Int32) : ev_M l b en ac D MM (d + 1) 25 [.ref 0, .int z] ev_hB (some (.int 0), ev_hB) := by
  refine ev_mk (by decide +kernel) (Nat.le_of_ble_eq_true rfl) (fun p e s m args below meth c hC => ?_)
  have hR := ev_rmR MM d 25
  repeat (refine wk_s hR hC MM_val rfl rfl (KW_ok ?_); try dsimp only; first | (refine wk_pT ?_ ?_; focus rfl) | (refine wk_pF ?_ ?_; focus rfl) | skip)
  by_cases h : z < 0
  · rw [if_pos h]
    repeat (refine wk_s hR hC MM_val rfl rfl (KW_ok ?_); try dsimp only; first | (refine wk_pT ?_ ?_; focus rfl) | (refine wk_pF ?_ ?_; focus rfl) | skip)
    exact wk_r hR hC MM_val rfl rfl rfl
  · rw [if_neg h]
    repeat (refine wk_s hR hC MM_val rfl rfl (KW_ok ?_); try dsimp only; first | (refine wk_pT ?_ ?_; focus rfl) | (refine wk_pF ?_ ?_; focus rfl) | skip)
    rw [if_pos (Int32.not_lt.mp h)]
    repeat (refine wk_s hR hC MM_val rfl rfl (KW_ok ?_); try dsimp only; first | (refine wk_pT ?_ ?_; focus rfl) | (refine wk_pF ?_ ?_; focus rfl) | skip)
    exact wk_r hR hC MM_val rfl rfl rfl

set_option maxRecDepth 100000 in
set_option maxHeartbeats 8000000 in
theorem mi_no (l : Launch) (b : Nat) (en ac : Nat → Nat) (D : va_G) (d : Nat) (v a z : Int32) (hh : v < a ∨ z < v) (hp : List AE) : ev_M l b en ac D MM (d + 1) 123 [.int v, .int a, .int z] hp (some (.int 0), hp) := by
  refine ev_mk (by decide +kernel) (Nat.le_of_ble_eq_true rfl) (fun p e s m args below meth c hC => ?_)
  have hR := ev_rmR MM d 123
  repeat (refine wk_s hR hC MM_val rfl rfl (KW_ok ?_); try dsimp only; first | (refine wk_pT ?_ ?_; focus rfl) | (refine wk_pF ?_ ?_; focus rfl) | skip)
  by_cases h : v < a
  · rw [if_pos h]
    repeat (refine wk_s hR hC MM_val rfl rfl (KW_ok ?_); try dsimp only; first | (refine wk_pT ?_ ?_; focus rfl) | (refine wk_pF ?_ ?_; focus rfl) | skip)
    exact wk_r hR hC MM_val rfl rfl rfl
  · rw [if_neg h]
    repeat (refine wk_s hR hC MM_val rfl rfl (KW_ok ?_); try dsimp only; first | (refine wk_pT ?_ ?_; focus rfl) | (refine wk_pF ?_ ?_; focus rfl) | skip)
    rw [if_pos (hh.resolve_left h)]
    repeat (refine wk_s hR hC MM_val rfl rfl (KW_ok ?_); try dsimp only; first | (refine wk_pT ?_ ?_; focus rfl) | (refine wk_pF ?_ ?_; focus rfl) | skip)
    exact wk_r hR hC MM_val rfl rfl rfl

set_option maxRecDepth 100000 in
set_option maxHeartbeats 8000000 in
theorem mi_yes (l : Launch) (b : Nat) (en ac : Nat → Nat) (D : va_G) (d : Nat) (v a z : Int32) (h1 : ¬ v < a) (h2 : ¬ z < v) (hp : List AE) : ev_M l b en ac D MM (d + 1) 123 [.int v, .int a, .int z] hp (some (.int 1), hp) := by
  refine ev_mk (by decide +kernel) (Nat.le_of_ble_eq_true rfl) (fun p e s m args below meth c hC => ?_)
  have hR := ev_rmR MM d 123
  repeat (refine wk_s hR hC MM_val rfl rfl (KW_ok ?_); try dsimp only; first | (refine wk_pT ?_ ?_; focus rfl) | (refine wk_pF ?_ ?_; focus rfl) | skip)
  rw [if_neg h1]
  repeat (refine wk_s hR hC MM_val rfl rfl (KW_ok ?_); try dsimp only; first | (refine wk_pT ?_ ?_; focus rfl) | (refine wk_pF ?_ ?_; focus rfl) | skip)
  rw [if_neg h2]
  repeat (refine wk_s hR hC MM_val rfl rfl (KW_ok ?_); try dsimp only; first | (refine wk_pT ?_ ?_; focus rfl) | (refine wk_pF ?_ ?_; focus rfl) | skip)
  exact wk_r hR hC MM_val rfl rfl rfl

theorem i_neg (z : Int32) : z < 0 ∨ (-1 : Int32) < z := by
  by_cases h : z < 0
  · exact Or.inl h
  · refine Or.inr (Int32.lt_iff_toInt_lt.mpr ?_)
    have h2 := Int32.le_iff_toInt_le.mp (Int32.not_lt.mp h)
    have e1 : (-1 : Int32).toInt = -1 := by decide +kernel
    have e2 : (0 : Int32).toInt = 0 := by decide +kernel
    omega
set_option maxRecDepth 100000 in
set_option maxHeartbeats 8000000 in
theorem mp_no (l : Launch) (b : Nat) (en ac : Nat → Nat) (D : va_G) (d : Nat) (z : Int32) : ev_M l b en ac D MM (d + 2) 125 [.ref 180, .int z] ev_hB (some (.int 0), ev_hB) := by
  refine ev_mk (by decide +kernel) (Nat.le_of_ble_eq_true rfl) (fun p e s m args below meth c hC => ?_)
  have hR := ev_rmR MM (d + 1) 125
  repeat (refine wk_s hR hC MM_val rfl rfl (KW_ok ?_); try dsimp only; first | (refine wk_pT ?_ ?_; focus rfl) | (refine wk_pF ?_ ?_; focus rfl) | skip)
  refine wk_S (As := [.int z, .int 0, .int (-1)]) (rest := []) hR hC MM_val rfl (by decide) (mi_no l b en ac D d z 0 (-1) (i_neg z) ev_hB) rfl rfl (Nat.zero_le _) ⟨Nat.le_refl _, Nat.le_refl _⟩ ?_
  simp only [Option.toList, List.cons_append, List.nil_append]
  repeat (refine wk_s hR hC MM_val rfl rfl (KW_ok ?_); try dsimp only; first | (refine wk_pT ?_ ?_; focus rfl) | (refine wk_pF ?_ ?_; focus rfl) | skip)
  exact wk_r hR hC MM_val rfl rfl rfl

set_option maxRecDepth 100000 in
set_option maxHeartbeats 8000000 in
theorem md_no (l : Launch) (b : Nat) (en ac : Nat → Nat) (D : va_G) (d : Nat) (z : Int32) : ev_M l b en ac D MM (d + 2) 122 [.ref 180, .int z] ev_hB (some (.int 0), ev_hB) := by
  refine ev_mk (by decide +kernel) (Nat.le_of_ble_eq_true rfl) (fun p e s m args below meth c hC => ?_)
  have hR := ev_rmR MM (d + 1) 122
  repeat (refine wk_s hR hC MM_val rfl rfl (KW_ok ?_); try dsimp only; first | (refine wk_pT ?_ ?_; focus rfl) | (refine wk_pF ?_ ?_; focus rfl) | skip)
  refine wk_S (As := [.int z, .int 0, .int (-1)]) (rest := []) hR hC MM_val rfl (by decide) (mi_no l b en ac D d z 0 (-1) (i_neg z) ev_hB) rfl rfl (Nat.zero_le _) ⟨Nat.le_refl _, Nat.le_refl _⟩ ?_
  simp only [Option.toList, List.cons_append, List.nil_append]
  repeat (refine wk_s hR hC MM_val rfl rfl (KW_ok ?_); try dsimp only; first | (refine wk_pT ?_ ?_; focus rfl) | (refine wk_pF ?_ ?_; focus rfl) | skip)
  exact wk_r hR hC MM_val rfl rfl rfl

set_option maxRecDepth 100000 in
set_option maxHeartbeats 8000000 in
theorem ma_no (l : Launch) (b : Nat) (en ac : Nat → Nat) (D : va_G) (d : Nat) (v z a h : Int32) : ev_M l b en ac D MM (d + 1) 93 [.ref 180, .int v, .int z, .int a, .int h, .int 0] ev_hB (some (.int (-1)), ev_hB) := by
  refine ev_mk (by decide +kernel) (Nat.le_of_ble_eq_true rfl) (fun p e s m args below meth c hC => ?_)
  have hR := ev_rmR MM d 93
  repeat (refine wk_s hR hC MM_val rfl rfl (KW_ok ?_); try dsimp only; first | (refine wk_pT ?_ ?_; focus rfl) | (refine wk_pF ?_ ?_; focus rfl) | skip)
  exact wk_r hR hC MM_val rfl rfl rfl

