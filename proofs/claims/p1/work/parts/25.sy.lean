/-! ===== calls with any ints on fresh objects: the rest ===== -/
theorem wk_tsO {p : Program} {l : Launch} {e : Env} {R : Room} {s : State} {m : MethodId} {args : Array Value} {below : List Frame} {meth : Method} {c : Code} {Q : State → Prop} {b : Nat} {en ac : Nat → Nat} {D : va_G} {M : MT} {mi d pc k ks x y t : Nat} {L : List (Nat × Value)} {st : List Value} {hp : List AE} {dflt lo hi : Int} {offs : Array Int} {v : Int32} (hR : d + 1 ≤ R.frames ∧ 64 * (d + 1) ≤ R.locals ∧ mC M mi ≤ R.cells ∧ mS M mi ≤ R.slots) (hC : ev_C p s m args meth c b en ac D M mi) (hval : ev_val M) (hf : mF M mi pc = some (.tableswitch dflt lo hi offs, x, y)) (hh : v.toInt < lo ∨ hi < v.toInt) (ht : ev_tg pc dflt = some t) (w : Wk p l e R s m args below meth c b en ac D M mi Q t L st hp k ks) : Wk p l e R s m args below meth c b en ac D M mi Q pc L (.int v :: st) hp k ks := by
  refine wk_s hR hC hval hf rfl ?_
  show (if v.toInt < lo ∨ hi < v.toInt then (ev_tg pc dflt).bind (fun t => KW _ _ t L st hp k ks) else _) = _
  rw [if_pos hh, ht]
  exact KW_ok w
theorem i_01 (v : Int32) (h0 : ¬ v = 0) (h1 : ¬ v = 1) : v < 0 ∨ (1 : Int32) < v := by
  by_cases h : v < 0
  · exact Or.inl h
  · refine Or.inr (Int32.lt_iff_toInt_lt.mpr ?_)
    have h2 := Int32.le_iff_toInt_le.mp (Int32.not_lt.mp h)
    have e1 : (1 : Int32).toInt = 1 := by decide +kernel
    have e2 : (0 : Int32).toInt = 0 := by decide +kernel
    have n0 : v.toInt ≠ 0 := fun q => h0 (Int32.toInt_inj.mp (q.trans e2.symm))
    have n1 : v.toInt ≠ 1 := fun q => h1 (Int32.toInt_inj.mp (q.trans e1.symm))
    omega
set_option maxRecDepth 100000 in
set_option maxHeartbeats 8000000 in
theorem cx_end_n (l : Launch) (b : Nat) (en ac : Nat → Nat) (D : va_G) (d : Nat) (n : Int32) (h : n < 0) : ev_M l b en ac D MM (d + 1) 15 [.ref 0, .int n] ev_hB (some (.int 0), ev_hB) := by
  refine ev_mk (by decide +kernel) (Nat.le_of_ble_eq_true rfl) (fun p e s m args below meth c hC => ?_)
  have hR := ev_rmR MM d 15
  repeat (refine wk_s hR hC MM_val rfl rfl (KW_ok ?_); try dsimp only; first | (refine wk_pT ?_ ?_; focus rfl) | (refine wk_pF ?_ ?_; focus rfl) | skip)
  refine wk_cT h ?_
  repeat (refine wk_s hR hC MM_val rfl rfl (KW_ok ?_); try dsimp only; first | (refine wk_pT ?_ ?_; focus rfl) | (refine wk_pF ?_ ?_; focus rfl) | skip)
  exact wk_r hR hC MM_val rfl rfl rfl

set_option maxRecDepth 100000 in
set_option maxHeartbeats 8000000 in
theorem cx_end_p (l : Launch) (b : Nat) (en ac : Nat → Nat) (D : va_G) (d : Nat) (n : Int32) (h : ¬ n < 0) (h2 : ¬ n ≤ 0) : ev_M l b en ac D MM (d + 1) 15 [.ref 0, .int n] ev_hB (some (.int 0), ev_hB) := by
  refine ev_mk (by decide +kernel) (Nat.le_of_ble_eq_true rfl) (fun p e s m args below meth c hC => ?_)
  have hR := ev_rmR MM d 15
  repeat (refine wk_s hR hC MM_val rfl rfl (KW_ok ?_); try dsimp only; first | (refine wk_pT ?_ ?_; focus rfl) | (refine wk_pF ?_ ?_; focus rfl) | skip)
  refine wk_cF h ?_
  repeat (refine wk_s hR hC MM_val rfl rfl (KW_ok ?_); try dsimp only; first | (refine wk_pT ?_ ?_; focus rfl) | (refine wk_pF ?_ ?_; focus rfl) | skip)
  refine wk_cF h2 ?_
  repeat (refine wk_s hR hC MM_val rfl rfl (KW_ok ?_); try dsimp only; first | (refine wk_pT ?_ ?_; focus rfl) | (refine wk_pF ?_ ?_; focus rfl) | skip)
  exact wk_r hR hC MM_val rfl rfl rfl

set_option maxRecDepth 100000 in
set_option maxHeartbeats 8000000 in
theorem cm_end_n (l : Launch) (b : Nat) (en ac : Nat → Nat) (D : va_G) (d : Nat) (n : Int32) (h : n < 0) : ev_M l b en ac D MM (d + 1) 110 [.ref 180, .int n] ev_hB (some (.int 0), ev_hB) := by
  refine ev_mk (by decide +kernel) (Nat.le_of_ble_eq_true rfl) (fun p e s m args below meth c hC => ?_)
  have hR := ev_rmR MM d 110
  repeat (refine wk_s hR hC MM_val rfl rfl (KW_ok ?_); try dsimp only; first | (refine wk_pT ?_ ?_; focus rfl) | (refine wk_pF ?_ ?_; focus rfl) | skip)
  refine wk_heap ev_hB (by decide +kernel) ?_
  refine wk_cT h ?_
  repeat (refine wk_s hR hC MM_val rfl rfl (KW_ok ?_); try dsimp only; first | (refine wk_pT ?_ ?_; focus rfl) | (refine wk_pF ?_ ?_; focus rfl) | skip)
  exact wk_r hR hC MM_val rfl rfl rfl

set_option maxRecDepth 100000 in
set_option maxHeartbeats 8000000 in
theorem cm_end_p (l : Launch) (b : Nat) (en ac : Nat → Nat) (D : va_G) (d : Nat) (n : Int32) (h : ¬ n < 0) (h2 : ¬ n ≤ 0) : ev_M l b en ac D MM (d + 1) 110 [.ref 180, .int n] ev_hB (some (.int 0), ev_hB) := by
  refine ev_mk (by decide +kernel) (Nat.le_of_ble_eq_true rfl) (fun p e s m args below meth c hC => ?_)
  have hR := ev_rmR MM d 110
  repeat (refine wk_s hR hC MM_val rfl rfl (KW_ok ?_); try dsimp only; first | (refine wk_pT ?_ ?_; focus rfl) | (refine wk_pF ?_ ?_; focus rfl) | skip)
  refine wk_heap ev_hB (by decide +kernel) ?_
  refine wk_cF h ?_
  repeat (refine wk_s hR hC MM_val rfl rfl (KW_ok ?_); try dsimp only; first | (refine wk_pT ?_ ?_; focus rfl) | (refine wk_pF ?_ ?_; focus rfl) | skip)
  refine wk_cF h2 ?_
  repeat (refine wk_s hR hC MM_val rfl rfl (KW_ok ?_); try dsimp only; first | (refine wk_pT ?_ ?_; focus rfl) | (refine wk_pF ?_ ?_; focus rfl) | skip)
  exact wk_r hR hC MM_val rfl rfl rfl

set_option maxRecDepth 100000 in
set_option maxHeartbeats 8000000 in
theorem cx_now_o (l : Launch) (b : Nat) (en ac : Nat → Nat) (D : va_G) (d : Nat) (v : Int32) (h : v.toInt < 0 ∨ 7 < v.toInt) : ev_M l b en ac D MM (d + 1) 27 [.ref 0, .int v] ev_hB (some (.int (-1)), ev_hB) := by
  refine ev_mk (by decide +kernel) (Nat.le_of_ble_eq_true rfl) (fun p e s m args below meth c hC => ?_)
  have hR := ev_rmR MM d 27
  repeat (refine wk_s hR hC MM_val rfl rfl (KW_ok ?_); try dsimp only; first | (refine wk_pT ?_ ?_; focus rfl) | (refine wk_pF ?_ ?_; focus rfl) | skip)
  refine wk_tsO hR hC MM_val rfl h rfl ?_
  repeat (refine wk_s hR hC MM_val rfl rfl (KW_ok ?_); try dsimp only; first | (refine wk_pT ?_ ?_; focus rfl) | (refine wk_pF ?_ ?_; focus rfl) | skip)
  exact wk_r hR hC MM_val rfl rfl rfl

set_option maxRecDepth 100000 in
set_option maxHeartbeats 8000000 in
theorem cm_now_o (l : Launch) (b : Nat) (en ac : Nat → Nat) (D : va_G) (d : Nat) (v : Int32) (h : v.toInt < 0 ∨ 7 < v.toInt) : ev_M l b en ac D MM (d + 1) 132 [.ref 180, .int v] ev_hB (some (.int (-1)), ev_hB) := by
  refine ev_mk (by decide +kernel) (Nat.le_of_ble_eq_true rfl) (fun p e s m args below meth c hC => ?_)
  have hR := ev_rmR MM d 132
  repeat (refine wk_s hR hC MM_val rfl rfl (KW_ok ?_); try dsimp only; first | (refine wk_pT ?_ ?_; focus rfl) | (refine wk_pF ?_ ?_; focus rfl) | skip)
  refine wk_heap ev_hB (by decide +kernel) ?_
  refine wk_tsO hR hC MM_val rfl h rfl ?_
  repeat (refine wk_s hR hC MM_val rfl rfl (KW_ok ?_); try dsimp only; first | (refine wk_pT ?_ ?_; focus rfl) | (refine wk_pF ?_ ?_; focus rfl) | skip)
  exact wk_r hR hC MM_val rfl rfl rfl

set_option maxRecDepth 100000 in
set_option maxHeartbeats 8000000 in
theorem cx_count_o (l : Launch) (b : Nat) (en ac : Nat → Nat) (D : va_G) (d : Nat) (v : Int32) (h : v.toInt < 0 ∨ 5 < v.toInt) : ev_M l b en ac D MM (d + 1) 8 [.ref 0, .int v] ev_hB (some (.int (-1)), ev_hB) := by
  refine ev_mk (by decide +kernel) (Nat.le_of_ble_eq_true rfl) (fun p e s m args below meth c hC => ?_)
  have hR := ev_rmR MM d 8
  repeat (refine wk_s hR hC MM_val rfl rfl (KW_ok ?_); try dsimp only; first | (refine wk_pT ?_ ?_; focus rfl) | (refine wk_pF ?_ ?_; focus rfl) | skip)
  refine wk_tsO hR hC MM_val rfl h rfl ?_
  repeat (refine wk_s hR hC MM_val rfl rfl (KW_ok ?_); try dsimp only; first | (refine wk_pT ?_ ?_; focus rfl) | (refine wk_pF ?_ ?_; focus rfl) | skip)
  exact wk_r hR hC MM_val rfl rfl rfl

set_option maxRecDepth 100000 in
set_option maxHeartbeats 8000000 in
theorem cm_count_o (l : Launch) (b : Nat) (en ac : Nat → Nat) (D : va_G) (d : Nat) (v : Int32) (h : v.toInt < 0 ∨ 5 < v.toInt) : ev_M l b en ac D MM (d + 1) 103 [.ref 180, .int v] ev_hB (some (.int (-1)), ev_hB) := by
  refine ev_mk (by decide +kernel) (Nat.le_of_ble_eq_true rfl) (fun p e s m args below meth c hC => ?_)
  have hR := ev_rmR MM d 103
  repeat (refine wk_s hR hC MM_val rfl rfl (KW_ok ?_); try dsimp only; first | (refine wk_pT ?_ ?_; focus rfl) | (refine wk_pF ?_ ?_; focus rfl) | skip)
  refine wk_heap ev_hB (by decide +kernel) ?_
  refine wk_tsO hR hC MM_val rfl h rfl ?_
  repeat (refine wk_s hR hC MM_val rfl rfl (KW_ok ?_); try dsimp only; first | (refine wk_pT ?_ ?_; focus rfl) | (refine wk_pF ?_ ?_; focus rfl) | skip)
  exact wk_r hR hC MM_val rfl rfl rfl

set_option maxRecDepth 100000 in
set_option maxHeartbeats 8000000 in
theorem cx_book_o (l : Launch) (b : Nat) (en ac : Nat → Nat) (D : va_G) (d : Nat) (v : Int32) (h0 : ¬ v = 0) (h1 : ¬ v = 1) : ev_M l b en ac D MM (d + 1) 6 [.ref 0, .int v] ev_hB (some (.int (-1000)), ev_hB) := by
  refine ev_mk (by decide +kernel) (Nat.le_of_ble_eq_true rfl) (fun p e s m args below meth c hC => ?_)
  have hR := ev_rmR MM d 6
  repeat (refine wk_s hR hC MM_val rfl rfl (KW_ok ?_); try dsimp only; first | (refine wk_pT ?_ ?_; focus rfl) | (refine wk_pF ?_ ?_; focus rfl) | skip)
  refine wk_cF h0 ?_
  repeat (refine wk_s hR hC MM_val rfl rfl (KW_ok ?_); try dsimp only; first | (refine wk_pT ?_ ?_; focus rfl) | (refine wk_pF ?_ ?_; focus rfl) | skip)
  refine wk_cF h1 ?_
  repeat (refine wk_s hR hC MM_val rfl rfl (KW_ok ?_); try dsimp only; first | (refine wk_pT ?_ ?_; focus rfl) | (refine wk_pF ?_ ?_; focus rfl) | skip)
  exact wk_r hR hC MM_val rfl rfl rfl

set_option maxRecDepth 100000 in
set_option maxHeartbeats 8000000 in
theorem cm_book_o (l : Launch) (b : Nat) (en ac : Nat → Nat) (D : va_G) (d : Nat) (v : Int32) (h : v < 0 ∨ (1 : Int32) < v) : ev_M l b en ac D MM (d + 2) 100 [.ref 180, .int v] ev_hB (some (.int (-1000)), ev_hB) := by
  refine ev_mk (by decide +kernel) (Nat.le_of_ble_eq_true rfl) (fun p e s m args below meth c hC => ?_)
  have hR := ev_rmR MM (d + 1) 100
  repeat (refine wk_s hR hC MM_val rfl rfl (KW_ok ?_); try dsimp only; first | (refine wk_pT ?_ ?_; focus rfl) | (refine wk_pF ?_ ?_; focus rfl) | skip)
  refine wk_heap ev_hB (by decide +kernel) ?_
  refine wk_S (As := [.int v, .int 0, .int 1]) hR hC MM_val rfl (by decide) (mi_no l b en ac D d v 0 1 h ev_hB) rfl rfl (Nat.le_of_ble_eq_true rfl) ⟨Nat.le_refl _, Nat.le_refl _⟩ ?_
  simp only [Option.toList, List.cons_append, List.nil_append]
  repeat (refine wk_s hR hC MM_val rfl rfl (KW_ok ?_); try dsimp only; first | (refine wk_pT ?_ ?_; focus rfl) | (refine wk_pF ?_ ?_; focus rfl) | skip)
  exact wk_r hR hC MM_val rfl rfl rfl

set_option maxRecDepth 100000 in
set_option maxHeartbeats 8000000 in
theorem cx_told (l : Launch) (b : Nat) (en ac : Nat → Nat) (D : va_G) (d : Nat) (v : Int32) : ev_M l b en ac D MM (d + 1) 40 [.ref 0, .int v] ev_hB (some (.int (-1)), ev_hB) := by
  refine ev_mk (by decide +kernel) (Nat.le_of_ble_eq_true rfl) (fun p e s m args below meth c hC => ?_)
  have hR := ev_rmR MM d 40
  repeat (refine wk_s hR hC MM_val rfl rfl (KW_ok ?_); try dsimp only; first | (refine wk_pT ?_ ?_; focus rfl) | (refine wk_pF ?_ ?_; focus rfl) | skip)
  exact wk_r hR hC MM_val rfl rfl rfl

set_option maxRecDepth 100000 in
set_option maxHeartbeats 8000000 in
theorem cm_told (l : Launch) (b : Nat) (en ac : Nat → Nat) (D : va_G) (d : Nat) (v : Int32) : ev_M l b en ac D MM (d + 1) 156 [.ref 180, .int v] ev_hB (some (.int (-1)), ev_hB) := by
  refine ev_mk (by decide +kernel) (Nat.le_of_ble_eq_true rfl) (fun p e s m args below meth c hC => ?_)
  have hR := ev_rmR MM d 156
  repeat (refine wk_s hR hC MM_val rfl rfl (KW_ok ?_); try dsimp only; first | (refine wk_pT ?_ ?_; focus rfl) | (refine wk_pF ?_ ?_; focus rfl) | skip)
  refine wk_heap ev_hB (by decide +kernel) ?_
  exact wk_r hR hC MM_val rfl rfl rfl

set_option maxRecDepth 100000 in
set_option maxHeartbeats 8000000 in
theorem cx_said (l : Launch) (b : Nat) (en ac : Nat → Nat) (D : va_G) (d : Nat) (v : Int32) : ev_M l b en ac D MM (d + 1) 34 [.ref 0, .int v] ev_hB (some (.int (-1)), ev_hB) := by
  refine ev_mk (by decide +kernel) (Nat.le_of_ble_eq_true rfl) (fun p e s m args below meth c hC => ?_)
  have hR := ev_rmR MM d 34
  repeat (refine wk_s hR hC MM_val rfl rfl (KW_ok ?_); try dsimp only; first | (refine wk_pT ?_ ?_; focus rfl) | (refine wk_pF ?_ ?_; focus rfl) | skip)
  exact wk_r hR hC MM_val rfl rfl rfl

set_option maxRecDepth 100000 in
set_option maxHeartbeats 8000000 in
theorem cm_said (l : Launch) (b : Nat) (en ac : Nat → Nat) (D : va_G) (d : Nat) (v : Int32) : ev_M l b en ac D MM (d + 1) 146 [.ref 180, .int v] ev_hB (some (.int (-1)), ev_hB) := by
  refine ev_mk (by decide +kernel) (Nat.le_of_ble_eq_true rfl) (fun p e s m args below meth c hC => ?_)
  have hR := ev_rmR MM d 146
  repeat (refine wk_s hR hC MM_val rfl rfl (KW_ok ?_); try dsimp only; first | (refine wk_pT ?_ ?_; focus rfl) | (refine wk_pF ?_ ?_; focus rfl) | skip)
  refine wk_heap ev_hB (by decide +kernel) ?_
  exact wk_r hR hC MM_val rfl rfl rfl

set_option maxRecDepth 100000 in
set_option maxHeartbeats 8000000 in
theorem cx_image_n (l : Launch) (b : Nat) (en ac : Nat → Nat) (D : va_G) (d : Nat) (v : Int32) (h : v < 0) : ev_M l b en ac D MM (d + 1) 24 [.ref 0, .int v] ev_hB (some (.int 0), ev_hB) := by
  refine ev_mk (by decide +kernel) (Nat.le_of_ble_eq_true rfl) (fun p e s m args below meth c hC => ?_)
  have hR := ev_rmR MM d 24
  repeat (refine wk_s hR hC MM_val rfl rfl (KW_ok ?_); try dsimp only; first | (refine wk_pT ?_ ?_; focus rfl) | (refine wk_pF ?_ ?_; focus rfl) | skip)
  refine wk_cT h ?_
  repeat (refine wk_s hR hC MM_val rfl rfl (KW_ok ?_); try dsimp only; first | (refine wk_pT ?_ ?_; focus rfl) | (refine wk_pF ?_ ?_; focus rfl) | skip)
  exact wk_r hR hC MM_val rfl rfl rfl

set_option maxRecDepth 100000 in
set_option maxHeartbeats 8000000 in
theorem cx_image_p (l : Launch) (b : Nat) (en ac : Nat → Nat) (D : va_G) (d : Nat) (v : Int32) (h : ¬ v < 0) (h2 : (2 : Int32) ≤ v) : ev_M l b en ac D MM (d + 1) 24 [.ref 0, .int v] ev_hB (some (.int 0), ev_hB) := by
  refine ev_mk (by decide +kernel) (Nat.le_of_ble_eq_true rfl) (fun p e s m args below meth c hC => ?_)
  have hR := ev_rmR MM d 24
  repeat (refine wk_s hR hC MM_val rfl rfl (KW_ok ?_); try dsimp only; first | (refine wk_pT ?_ ?_; focus rfl) | (refine wk_pF ?_ ?_; focus rfl) | skip)
  refine wk_cF h ?_
  repeat (refine wk_s hR hC MM_val rfl rfl (KW_ok ?_); try dsimp only; first | (refine wk_pT ?_ ?_; focus rfl) | (refine wk_pF ?_ ?_; focus rfl) | skip)
  first | refine wk_cT h2 ?_ | refine wk_cF (Int32.not_lt.mpr h2) ?_
  repeat (refine wk_s hR hC MM_val rfl rfl (KW_ok ?_); try dsimp only; first | (refine wk_pT ?_ ?_; focus rfl) | (refine wk_pF ?_ ?_; focus rfl) | skip)
  exact wk_r hR hC MM_val rfl rfl rfl

set_option maxRecDepth 100000 in
set_option maxHeartbeats 8000000 in
theorem cm_image_o (l : Launch) (b : Nat) (en ac : Nat → Nat) (D : va_G) (d : Nat) (v : Int32) (h : v < 0 ∨ (1 : Int32) < v) : ev_M l b en ac D MM (d + 2) 121 [.ref 180, .int v] ev_hB (some (.int 0), ev_hB) := by
  refine ev_mk (by decide +kernel) (Nat.le_of_ble_eq_true rfl) (fun p e s m args below meth c hC => ?_)
  have hR := ev_rmR MM (d + 1) 121
  repeat (refine wk_s hR hC MM_val rfl rfl (KW_ok ?_); try dsimp only; first | (refine wk_pT ?_ ?_; focus rfl) | (refine wk_pF ?_ ?_; focus rfl) | skip)
  refine wk_heap ev_hB (by decide +kernel) ?_
  refine wk_S (As := [.int v, .int 0, .int 1]) hR hC MM_val rfl (by decide) (mi_no l b en ac D d v 0 1 h ev_hB) rfl rfl (Nat.le_of_ble_eq_true rfl) ⟨Nat.le_refl _, Nat.le_refl _⟩ ?_
  simp only [Option.toList, List.cons_append, List.nil_append]
  repeat (refine wk_s hR hC MM_val rfl rfl (KW_ok ?_); try dsimp only; first | (refine wk_pT ?_ ?_; focus rfl) | (refine wk_pF ?_ ?_; focus rfl) | skip)
  exact wk_r hR hC MM_val rfl rfl rfl

set_option maxRecDepth 100000 in
set_option maxHeartbeats 8000000 in
theorem cx_restore_n (l : Launch) (b : Nat) (en ac : Nat → Nat) (D : va_G) (d : Nat) (v : Int32) (h : v < 0) : ev_M l b en ac D MM (d + 1) 32 [.ref 0, .int v] ev_hB (some (.int 0), ev_hB) := by
  refine ev_mk (by decide +kernel) (Nat.le_of_ble_eq_true rfl) (fun p e s m args below meth c hC => ?_)
  have hR := ev_rmR MM d 32
  repeat (refine wk_s hR hC MM_val rfl rfl (KW_ok ?_); try dsimp only; first | (refine wk_pT ?_ ?_; focus rfl) | (refine wk_pF ?_ ?_; focus rfl) | skip)
  refine wk_cT h ?_
  repeat (refine wk_s hR hC MM_val rfl rfl (KW_ok ?_); try dsimp only; first | (refine wk_pT ?_ ?_; focus rfl) | (refine wk_pF ?_ ?_; focus rfl) | skip)
  exact wk_r hR hC MM_val rfl rfl rfl

set_option maxRecDepth 100000 in
set_option maxHeartbeats 8000000 in
theorem cx_restore_p (l : Launch) (b : Nat) (en ac : Nat → Nat) (D : va_G) (d : Nat) (v : Int32) (h : ¬ v < 0) (h2 : (2 : Int32) ≤ v) : ev_M l b en ac D MM (d + 1) 32 [.ref 0, .int v] ev_hB (some (.int 0), ev_hB) := by
  refine ev_mk (by decide +kernel) (Nat.le_of_ble_eq_true rfl) (fun p e s m args below meth c hC => ?_)
  have hR := ev_rmR MM d 32
  repeat (refine wk_s hR hC MM_val rfl rfl (KW_ok ?_); try dsimp only; first | (refine wk_pT ?_ ?_; focus rfl) | (refine wk_pF ?_ ?_; focus rfl) | skip)
  refine wk_cF h ?_
  repeat (refine wk_s hR hC MM_val rfl rfl (KW_ok ?_); try dsimp only; first | (refine wk_pT ?_ ?_; focus rfl) | (refine wk_pF ?_ ?_; focus rfl) | skip)
  first | refine wk_cT h2 ?_ | refine wk_cF (Int32.not_lt.mpr h2) ?_
  repeat (refine wk_s hR hC MM_val rfl rfl (KW_ok ?_); try dsimp only; first | (refine wk_pT ?_ ?_; focus rfl) | (refine wk_pF ?_ ?_; focus rfl) | skip)
  exact wk_r hR hC MM_val rfl rfl rfl

set_option maxRecDepth 100000 in
set_option maxHeartbeats 8000000 in
theorem cm_restore_o (l : Launch) (b : Nat) (en ac : Nat → Nat) (D : va_G) (d : Nat) (v : Int32) (h : v < 0 ∨ (1 : Int32) < v) : ev_M l b en ac D MM (d + 2) 144 [.ref 180, .int v] ev_hB (some (.int 0), ev_hB) := by
  refine ev_mk (by decide +kernel) (Nat.le_of_ble_eq_true rfl) (fun p e s m args below meth c hC => ?_)
  have hR := ev_rmR MM (d + 1) 144
  repeat (refine wk_s hR hC MM_val rfl rfl (KW_ok ?_); try dsimp only; first | (refine wk_pT ?_ ?_; focus rfl) | (refine wk_pF ?_ ?_; focus rfl) | skip)
  refine wk_heap ev_hB (by decide +kernel) ?_
  refine wk_S (As := [.int v, .int 0, .int 1]) hR hC MM_val rfl (by decide) (mi_no l b en ac D d v 0 1 h ev_hB) rfl rfl (Nat.le_of_ble_eq_true rfl) ⟨Nat.le_refl _, Nat.le_refl _⟩ ?_
  simp only [Option.toList, List.cons_append, List.nil_append]
  repeat (refine wk_s hR hC MM_val rfl rfl (KW_ok ?_); try dsimp only; first | (refine wk_pT ?_ ?_; focus rfl) | (refine wk_pF ?_ ?_; focus rfl) | skip)
  exact wk_r hR hC MM_val rfl rfl rfl

set_option maxRecDepth 100000 in
set_option maxHeartbeats 8000000 in
theorem cx_byteAt (l : Launch) (b : Nat) (en ac : Nat → Nat) (D : va_G) (d : Nat) (v : Int32) : ev_M l b en ac D MM (d + 1) 7 [.ref 0, .int v] ev_hB (some (.int (-1)), ev_hB) := by
  refine ev_mk (by decide +kernel) (Nat.le_of_ble_eq_true rfl) (fun p e s m args below meth c hC => ?_)
  have hR := ev_rmR MM d 7
  repeat (refine wk_s hR hC MM_val rfl rfl (KW_ok ?_); try dsimp only; first | (refine wk_pT ?_ ?_; focus rfl) | (refine wk_pF ?_ ?_; focus rfl) | skip)
  by_cases h : v < 0
  · refine wk_cT h ?_
    repeat (refine wk_s hR hC MM_val rfl rfl (KW_ok ?_); try dsimp only; first | (refine wk_pT ?_ ?_; focus rfl) | (refine wk_pF ?_ ?_; focus rfl) | skip)
    exact wk_r hR hC MM_val rfl rfl rfl
  · refine wk_cF h ?_
    repeat (refine wk_s hR hC MM_val rfl rfl (KW_ok ?_); try dsimp only; first | (refine wk_pT ?_ ?_; focus rfl) | (refine wk_pF ?_ ?_; focus rfl) | skip)
    refine wk_cT (Int32.not_lt.mp h) ?_
    repeat (refine wk_s hR hC MM_val rfl rfl (KW_ok ?_); try dsimp only; first | (refine wk_pT ?_ ?_; focus rfl) | (refine wk_pF ?_ ?_; focus rfl) | skip)
    exact wk_r hR hC MM_val rfl rfl rfl

set_option maxRecDepth 100000 in
set_option maxHeartbeats 8000000 in
theorem cm_byteAt (l : Launch) (b : Nat) (en ac : Nat → Nat) (D : va_G) (d : Nat) (v : Int32) : ev_M l b en ac D MM (d + 2) 101 [.ref 180, .int v] ev_hB (some (.int (-1)), ev_hB) := by
  refine ev_mk (by decide +kernel) (Nat.le_of_ble_eq_true rfl) (fun p e s m args below meth c hC => ?_)
  have hR := ev_rmR MM (d + 1) 101
  repeat (refine wk_s hR hC MM_val rfl rfl (KW_ok ?_); try dsimp only; first | (refine wk_pT ?_ ?_; focus rfl) | (refine wk_pF ?_ ?_; focus rfl) | skip)
  refine wk_heap ev_hB (by decide +kernel) ?_
  refine wk_S (As := [.int v, .int 0, .int (-1)]) hR hC MM_val rfl (by decide) (mi_no l b en ac D d v 0 (-1) (i_neg v) ev_hB) rfl rfl (Nat.le_of_ble_eq_true rfl) ⟨Nat.le_refl _, Nat.le_refl _⟩ ?_
  simp only [Option.toList, List.cons_append, List.nil_append]
  repeat (refine wk_s hR hC MM_val rfl rfl (KW_ok ?_); try dsimp only; first | (refine wk_pT ?_ ?_; focus rfl) | (refine wk_pF ?_ ?_; focus rfl) | skip)
  exact wk_r hR hC MM_val rfl rfl rfl

set_option maxRecDepth 100000 in
set_option maxHeartbeats 8000000 in
theorem cm_fitAt (l : Launch) (b : Nat) (en ac : Nat → Nat) (D : va_G) (d : Nat) (v : Int32) : ev_M l b en ac D MM (d + 2) 113 [.ref 180, .int v] ev_hB (some (.int (-1)), ev_hB) := by
  refine ev_mk (by decide +kernel) (Nat.le_of_ble_eq_true rfl) (fun p e s m args below meth c hC => ?_)
  have hR := ev_rmR MM (d + 1) 113
  repeat (refine wk_s hR hC MM_val rfl rfl (KW_ok ?_); try dsimp only; first | (refine wk_pT ?_ ?_; focus rfl) | (refine wk_pF ?_ ?_; focus rfl) | skip)
  refine wk_heap ev_hB (by decide +kernel) ?_
  refine wk_S (As := [.int v, .int 0, .int (-1)]) hR hC MM_val rfl (by decide) (mi_no l b en ac D d v 0 (-1) (i_neg v) ev_hB) rfl rfl (Nat.le_of_ble_eq_true rfl) ⟨Nat.le_refl _, Nat.le_refl _⟩ ?_
  simp only [Option.toList, List.cons_append, List.nil_append]
  repeat (refine wk_s hR hC MM_val rfl rfl (KW_ok ?_); try dsimp only; first | (refine wk_pT ?_ ?_; focus rfl) | (refine wk_pF ?_ ?_; focus rfl) | skip)
  exact wk_r hR hC MM_val rfl rfl rfl

set_option maxRecDepth 100000 in
set_option maxHeartbeats 8000000 in
theorem cx_placeOf (l : Launch) (b : Nat) (en ac : Nat → Nat) (D : va_G) (d : Nat) (v : Int32) : ev_M l b en ac D MM (d + 1) 71 [.ref 120, .int v] ev_hB (some (.int (-1)), ev_hB) := by
  refine ev_mk (by decide +kernel) (Nat.le_of_ble_eq_true rfl) (fun p e s m args below meth c hC => ?_)
  have hR := ev_rmR MM d 71
  repeat (refine wk_s hR hC MM_val rfl rfl (KW_ok ?_); try dsimp only; first | (refine wk_pT ?_ ?_; focus rfl) | (refine wk_pF ?_ ?_; focus rfl) | skip)
  by_cases h : v < 0
  · refine wk_cT h ?_
    repeat (refine wk_s hR hC MM_val rfl rfl (KW_ok ?_); try dsimp only; first | (refine wk_pT ?_ ?_; focus rfl) | (refine wk_pF ?_ ?_; focus rfl) | skip)
    exact wk_r hR hC MM_val rfl rfl rfl
  · refine wk_cF h ?_
    repeat (refine wk_s hR hC MM_val rfl rfl (KW_ok ?_); try dsimp only; first | (refine wk_pT ?_ ?_; focus rfl) | (refine wk_pF ?_ ?_; focus rfl) | skip)
    refine wk_cT (Int32.not_lt.mp h) ?_
    repeat (refine wk_s hR hC MM_val rfl rfl (KW_ok ?_); try dsimp only; first | (refine wk_pT ?_ ?_; focus rfl) | (refine wk_pF ?_ ?_; focus rfl) | skip)
    exact wk_r hR hC MM_val rfl rfl rfl

set_option maxRecDepth 100000 in
set_option maxHeartbeats 8000000 in
theorem cx_partedAt (l : Launch) (b : Nat) (en ac : Nat → Nat) (D : va_G) (d : Nat) (v u : Int32) : ev_M l b en ac D MM (d + 2) 31 [.ref 0, .int v, .int u] ev_hB (some (.int (-1)), ev_hB) := by
  refine ev_mk (by decide +kernel) (Nat.le_of_ble_eq_true rfl) (fun p e s m args below meth c hC => ?_)
  have hR := ev_rmR MM (d + 1) 31
  repeat (refine wk_s hR hC MM_val rfl rfl (KW_ok ?_); try dsimp only; first | (refine wk_pT ?_ ?_; focus rfl) | (refine wk_pF ?_ ?_; focus rfl) | skip)
  by_cases h : u = 0
  · first | refine wk_cT h ?_ | refine wk_cF (not_not_intro h) ?_
    repeat (refine wk_s hR hC MM_val rfl rfl (KW_ok ?_); try dsimp only; first | (refine wk_pT ?_ ?_; focus rfl) | (refine wk_pF ?_ ?_; focus rfl) | skip)
    refine wk_V (As := [.int v]) hR hC MM_val rfl (by decide) (cx_placeOf l b en ac D d v) rfl rfl rfl (Nat.le_of_ble_eq_true rfl) ⟨Nat.le_refl _, Nat.le_refl _⟩ ?_
    simp only [Option.toList, List.cons_append, List.nil_append]
    repeat (refine wk_s hR hC MM_val rfl rfl (KW_ok ?_); try dsimp only; first | (refine wk_pT ?_ ?_; focus rfl) | (refine wk_pF ?_ ?_; focus rfl) | skip)
    exact wk_r hR hC MM_val rfl rfl rfl
  · refine wk_cF h ?_
    repeat (refine wk_s hR hC MM_val rfl rfl (KW_ok ?_); try dsimp only; first | (refine wk_pT ?_ ?_; focus rfl) | (refine wk_pF ?_ ?_; focus rfl) | skip)
    by_cases h2 : u = 1
    · refine wk_cT h2 ?_
      repeat (refine wk_s hR hC MM_val rfl rfl (KW_ok ?_); try dsimp only; first | (refine wk_pT ?_ ?_; focus rfl) | (refine wk_pF ?_ ?_; focus rfl) | skip)
      refine wk_V (As := [.int v]) hR hC MM_val rfl (by decide) (cx_placeOf l b en ac D d v) rfl rfl rfl (Nat.le_of_ble_eq_true rfl) ⟨Nat.le_refl _, Nat.le_refl _⟩ ?_
      simp only [Option.toList, List.cons_append, List.nil_append]
      repeat (refine wk_s hR hC MM_val rfl rfl (KW_ok ?_); try dsimp only; first | (refine wk_pT ?_ ?_; focus rfl) | (refine wk_pF ?_ ?_; focus rfl) | skip)
      exact wk_r hR hC MM_val rfl rfl rfl
    · refine wk_cF h2 ?_
      repeat (refine wk_s hR hC MM_val rfl rfl (KW_ok ?_); try dsimp only; first | (refine wk_pT ?_ ?_; focus rfl) | (refine wk_pF ?_ ?_; focus rfl) | skip)
      exact wk_r hR hC MM_val rfl rfl rfl

set_option maxRecDepth 100000 in
set_option maxHeartbeats 8000000 in
theorem cm_partedAt (l : Launch) (b : Nat) (en ac : Nat → Nat) (D : va_G) (d : Nat) (v u : Int32) : ev_M l b en ac D MM (d + 2) 137 [.ref 180, .int v, .int u] ev_hB (some (.int (-1)), ev_hB) := by
  refine ev_mk (by decide +kernel) (Nat.le_of_ble_eq_true rfl) (fun p e s m args below meth c hC => ?_)
  have hR := ev_rmR MM (d + 1) 137
  repeat (refine wk_s hR hC MM_val rfl rfl (KW_ok ?_); try dsimp only; first | (refine wk_pT ?_ ?_; focus rfl) | (refine wk_pF ?_ ?_; focus rfl) | skip)
  refine wk_heap ev_hB (by decide +kernel) ?_
  refine wk_S (As := [.int v, .int 0, .int (-1)]) hR hC MM_val rfl (by decide) (mi_no l b en ac D d v 0 (-1) (i_neg v) ev_hB) rfl rfl (Nat.le_of_ble_eq_true rfl) ⟨Nat.le_refl _, Nat.le_refl _⟩ ?_
  simp only [Option.toList, List.cons_append, List.nil_append]
  repeat (refine wk_s hR hC MM_val rfl rfl (KW_ok ?_); try dsimp only; first | (refine wk_pT ?_ ?_; focus rfl) | (refine wk_pF ?_ ?_; focus rfl) | skip)
  exact wk_r hR hC MM_val rfl rfl rfl

set_option maxRecDepth 100000 in
set_option maxHeartbeats 8000000 in
theorem cx_drawn (l : Launch) (b : Nat) (en ac : Nat → Nat) (D : va_G) (d : Nat) (v u : Int32) : ev_M l b en ac D MM (d + 1) 12 [.ref 0, .int v, .int u] ev_hB (some (.int (-1)), ev_hB) := by
  refine ev_mk (by decide +kernel) (Nat.le_of_ble_eq_true rfl) (fun p e s m args below meth c hC => ?_)
  have hR := ev_rmR MM d 12
  repeat (refine wk_s hR hC MM_val rfl rfl (KW_ok ?_); try dsimp only; first | (refine wk_pT ?_ ?_; focus rfl) | (refine wk_pF ?_ ?_; focus rfl) | skip)
  by_cases h : v < 1
  · refine wk_cT h ?_
    repeat (refine wk_s hR hC MM_val rfl rfl (KW_ok ?_); try dsimp only; first | (refine wk_pT ?_ ?_; focus rfl) | (refine wk_pF ?_ ?_; focus rfl) | skip)
    exact wk_r hR hC MM_val rfl rfl rfl
  · refine wk_cF h ?_
    repeat (refine wk_s hR hC MM_val rfl rfl (KW_ok ?_); try dsimp only; first | (refine wk_pT ?_ ?_; focus rfl) | (refine wk_pF ?_ ?_; focus rfl) | skip)
    by_cases h2 : (60 : Int32) < v
    · first | refine wk_cT h2 ?_ | refine wk_cF (fun z => Int32.not_le.mpr h2 z) ?_
      repeat (refine wk_s hR hC MM_val rfl rfl (KW_ok ?_); try dsimp only; first | (refine wk_pT ?_ ?_; focus rfl) | (refine wk_pF ?_ ?_; focus rfl) | skip)
      exact wk_r hR hC MM_val rfl rfl rfl
    · first | refine wk_cF h2 ?_ | refine wk_cT (Int32.not_lt.mp h2) ?_
      repeat (refine wk_s hR hC MM_val rfl rfl (KW_ok ?_); try dsimp only; first | (refine wk_pT ?_ ?_; focus rfl) | (refine wk_pF ?_ ?_; focus rfl) | skip)
      exact wk_r hR hC MM_val rfl rfl rfl

set_option maxRecDepth 100000 in
set_option maxHeartbeats 8000000 in
theorem cm_drawn (l : Launch) (b : Nat) (en ac : Nat → Nat) (D : va_G) (d : Nat) (v u : Int32) : ev_M l b en ac D MM (d + 2) 107 [.ref 180, .int v, .int u] ev_hB (some (.int (-1)), ev_hB) := by
  refine ev_mk (by decide +kernel) (Nat.le_of_ble_eq_true rfl) (fun p e s m args below meth c hC => ?_)
  have hR := ev_rmR MM (d + 1) 107
  repeat (refine wk_s hR hC MM_val rfl rfl (KW_ok ?_); try dsimp only; first | (refine wk_pT ?_ ?_; focus rfl) | (refine wk_pF ?_ ?_; focus rfl) | skip)
  refine wk_heap ev_hB (by decide +kernel) ?_
  by_cases h : v < 1 ∨ (60 : Int32) < v
  · refine wk_S (As := [.int v, .int 1, .int 60]) hR hC MM_val rfl (by decide) (mi_no l b en ac D d v 1 60 h ev_hB) rfl rfl (Nat.le_of_ble_eq_true rfl) ⟨Nat.le_refl _, Nat.le_refl _⟩ ?_
    simp only [Option.toList, List.cons_append, List.nil_append]
    repeat (refine wk_s hR hC MM_val rfl rfl (KW_ok ?_); try dsimp only; first | (refine wk_pT ?_ ?_; focus rfl) | (refine wk_pF ?_ ?_; focus rfl) | skip)
    exact wk_r hR hC MM_val rfl rfl rfl
  · refine wk_S (As := [.int v, .int 1, .int 60]) hR hC MM_val rfl (by decide) (mi_yes l b en ac D d v 1 60 (fun z => h (Or.inl z)) (fun z => h (Or.inr z)) ev_hB) rfl rfl (Nat.le_of_ble_eq_true rfl) ⟨Nat.le_refl _, Nat.le_refl _⟩ ?_
    simp only [Option.toList, List.cons_append, List.nil_append]
    repeat (refine wk_s hR hC MM_val rfl rfl (KW_ok ?_); try dsimp only; first | (refine wk_pT ?_ ?_; focus rfl) | (refine wk_pF ?_ ?_; focus rfl) | skip)
    exact wk_r hR hC MM_val rfl rfl rfl

set_option maxRecDepth 100000 in
set_option maxHeartbeats 8000000 in
theorem cx_days_o (l : Launch) (b : Nat) (en ac : Nat → Nat) (D : va_G) (d : Nat) (v : Int32) (h : v < 1 ∨ (60 : Int32) < v) : ev_M l b en ac D MM (d + 1) 9 [.ref 0, .int v] ev_hB (some (.int (-1)), ev_hB) := by
  refine ev_mk (by decide +kernel) (Nat.le_of_ble_eq_true rfl) (fun p e s m args below meth c hC => ?_)
  have hR := ev_rmR MM d 9
  repeat (refine wk_s hR hC MM_val rfl rfl (KW_ok ?_); try dsimp only; first | (refine wk_pT ?_ ?_; focus rfl) | (refine wk_pF ?_ ?_; focus rfl) | skip)
  by_cases h1 : v < 1
  · refine wk_cT h1 ?_
    repeat (refine wk_s hR hC MM_val rfl rfl (KW_ok ?_); try dsimp only; first | (refine wk_pT ?_ ?_; focus rfl) | (refine wk_pF ?_ ?_; focus rfl) | skip)
    exact wk_r hR hC MM_val rfl rfl rfl
  · refine wk_cF h1 ?_
    repeat (refine wk_s hR hC MM_val rfl rfl (KW_ok ?_); try dsimp only; first | (refine wk_pT ?_ ?_; focus rfl) | (refine wk_pF ?_ ?_; focus rfl) | skip)
    have h2 := h.resolve_left h1
    first | refine wk_cT h2 ?_ | refine wk_cF (fun z => Int32.not_le.mpr h2 z) ?_
    repeat (refine wk_s hR hC MM_val rfl rfl (KW_ok ?_); try dsimp only; first | (refine wk_pT ?_ ?_; focus rfl) | (refine wk_pF ?_ ?_; focus rfl) | skip)
    exact wk_r hR hC MM_val rfl rfl rfl

set_option maxRecDepth 100000 in
set_option maxHeartbeats 8000000 in
theorem cm_days_o (l : Launch) (b : Nat) (en ac : Nat → Nat) (D : va_G) (d : Nat) (v : Int32) (h : v < 1 ∨ (60 : Int32) < v) : ev_M l b en ac D MM (d + 2) 104 [.ref 180, .int v] ev_hB (some (.int (-1)), ev_hB) := by
  refine ev_mk (by decide +kernel) (Nat.le_of_ble_eq_true rfl) (fun p e s m args below meth c hC => ?_)
  have hR := ev_rmR MM (d + 1) 104
  repeat (refine wk_s hR hC MM_val rfl rfl (KW_ok ?_); try dsimp only; first | (refine wk_pT ?_ ?_; focus rfl) | (refine wk_pF ?_ ?_; focus rfl) | skip)
  refine wk_heap ev_hB (by decide +kernel) ?_
  refine wk_S (As := [.int v, .int 1, .int 60]) hR hC MM_val rfl (by decide) (mi_no l b en ac D d v 1 60 h ev_hB) rfl rfl (Nat.le_of_ble_eq_true rfl) ⟨Nat.le_refl _, Nat.le_refl _⟩ ?_
  simp only [Option.toList, List.cons_append, List.nil_append]
  repeat (refine wk_s hR hC MM_val rfl rfl (KW_ok ?_); try dsimp only; first | (refine wk_pT ?_ ?_; focus rfl) | (refine wk_pF ?_ ?_; focus rfl) | skip)
  exact wk_r hR hC MM_val rfl rfl rfl

