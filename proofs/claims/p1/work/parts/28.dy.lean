/-! ===== days ===== -/
theorem wk_se {p : Program} {l : Launch} {e : Env} {R : Room} {s : State} {m : MethodId} {args : Array Value} {below : List Frame} {meth : Method} {c : Code} {Q : State → Prop} {b : Nat} {en ac : Nat → Nat} {D : va_G} {M : MT} {mi pc k ks : Nat} {L : List (Nat × Value)} {st st2 : List Value} {hp : List AE} (h : st = st2) (w : Wk p l e R s m args below meth c b en ac D M mi Q pc L st2 hp k ks) : Wk p l e R s m args below meth c b en ac D M mi Q pc L st hp k ks := by
  subst h; exact w
def hcd (j : Nat) : List AE := (ev_hB.set 39 (.inr (6, [.ref 40, .int 0, .int 1]))).set 23 (.inr (3, [.int (Int32.ofNat j), .int 0, .int 0, .int 0, .int 0, .ref 24, .ref 25, .ref 26, .ref 27, .ref 28, .ref 29, .ref 30]))
set_option maxRecDepth 1000000 in
theorem dy_left : ev_is (ev MM 8 59 [.ref 23] ev_hB) (some (.int 400)) ev_hB = true := by decide +kernel
set_option maxRecDepth 1000000 in
theorem dy_keep : ev_is (ev MM 8 74 [.ref 39, .ref 23] ev_hB) none (hcd 0) = true := by decide +kernel
set_option maxRecDepth 1000000 in
theorem dy_day : ∀ j, j < 60 → ev_is (ev MM 7 63 [.ref 23, .ref 3] (hcd j)) none (hcd (j + 1)) = true := by decide +kernel
set_option maxRecDepth 100000 in
set_option maxHeartbeats 4000000 in
theorem dy_r {p : Program} {l : Launch} {e : Env} {s : State} {m : MethodId} {args : Array Value} {below : List Frame} {meth : Method} {c : Code} {Q : State → Prop} {b : Nat} {en ac : Nat → Nat} {D : va_G} (hC : ev_C p s m args meth c b en ac D MM 64) (k j : Nat) (hk : k ≤ 60) (hj : j < k) (w : Wk p l e (ev_rm MM 8 64) s m args below meth c b en ac D MM 64 Q 2 [(3, .int (Int32.ofNat (j + 1))), (0, .ref 23), (1, .ref 3), (2, .int (Int32.ofNat k))] [] (hcd (j + 1)) 0 0) : Wk p l e (ev_rm MM 8 64) s m args below meth c b en ac D MM 64 Q 2 [(3, .int (Int32.ofNat j)), (0, .ref 23), (1, .ref 3), (2, .int (Int32.ofNat k))] [] (hcd j) 0 0 := by
  have hR := ev_rmR MM 7 64
  refine wk_s hR hC MM_val rfl rfl (KW_ok ?_)
  refine wk_s hR hC MM_val rfl rfl (KW_ok ?_)
  refine wk_s hR hC MM_val rfl rfl (KW_ok ?_)
  refine wk_cF (i_le k j (by omega) (by omega) hj) ?_
  refine wk_s hR hC MM_val rfl rfl (KW_ok ?_)
  refine wk_s hR hC MM_val rfl rfl (KW_ok ?_)
  refine wk_s hR hC MM_val rfl rfl (KW_ok ?_)
  refine wk_s hR hC MM_val rfl rfl (KW_ok ?_)
  refine wk_cF (i_le 400 j (by omega) (by omega) (by omega)) ?_
  refine wk_s hR hC MM_val rfl rfl (KW_ok ?_)
  refine wk_s hR hC MM_val rfl rfl (KW_ok ?_)
  refine wk_V (z := 23) (As := [.ref 3]) (rest := []) hR hC MM_val rfl (by decide) (ev_ok l b en ac D MM_val 7 _ _ _ _ (ev_is_ok (dy_day j (by omega)))) rfl rfl rfl (Nat.le_of_ble_eq_true rfl) ⟨Nat.le_refl _, Nat.le_refl _⟩ ?_
  simp only [Option.toList, List.cons_append, List.nil_append]
  refine wk_s hR hC MM_val rfl rfl (KW_ok ?_)
  refine wk_s hR hC MM_val rfl rfl (KW_ok ?_)
  refine wk_eq (congrArg (fun v => [(3, Value.int v), (0, Value.ref 23), (1, Value.ref 3), (2, Value.int (Int32.ofNat k))]) (i_s1 j)) rfl w
theorem dy_l {p : Program} {l : Launch} {e : Env} {s : State} {m : MethodId} {args : Array Value} {below : List Frame} {meth : Method} {c : Code} {Q : State → Prop} {b : Nat} {en ac : Nat → Nat} {D : va_G} (hC : ev_C p s m args meth c b en ac D MM 64) (k : Nat) (hk : k ≤ 60) (w : Wk p l e (ev_rm MM 8 64) s m args below meth c b en ac D MM 64 Q 2 [(3, .int (Int32.ofNat k)), (0, .ref 23), (1, .ref 3), (2, .int (Int32.ofNat k))] [] (hcd k) 0 0) : ∀ r j, j + r = k → Wk p l e (ev_rm MM 8 64) s m args below meth c b en ac D MM 64 Q 2 [(3, .int (Int32.ofNat j)), (0, .ref 23), (1, .ref 3), (2, .int (Int32.ofNat k))] [] (hcd j) 0 0 := by
  intro r
  induction r with
  | zero =>
    intro j h
    have h1 : j = k := by omega
    rw [h1]; exact w
  | succ r ih =>
    intro j h
    refine dy_r hC k j hk (by omega) ?_
    exact ih (j + 1) (by omega)
set_option maxRecDepth 100000 in
set_option maxHeartbeats 4000000 in
theorem dy_pass (l : Launch) (b : Nat) (en ac : Nat → Nat) (D : va_G) (k : Nat) (hk : k ≤ 60) : ev_M l b en ac D MM 8 64 [.ref 23, .ref 3, .int (Int32.ofNat k)] (hcd 0) (none, hcd k) := by
  refine ev_mk (by decide +kernel) (Nat.le_of_ble_eq_true rfl) (fun p e s m args below meth c hC => ?_)
  have hR := ev_rmR MM 7 64
  refine wk_s hR hC MM_val rfl rfl (KW_ok ?_)
  refine wk_s hR hC MM_val rfl rfl (KW_ok ?_)
  refine dy_l hC k hk ?_ k 0 (by omega)
  refine wk_s hR hC MM_val rfl rfl (KW_ok ?_)
  refine wk_s hR hC MM_val rfl rfl (KW_ok ?_)
  refine wk_s hR hC MM_val rfl rfl (KW_ok ?_)
  refine wk_cT (Int32.le_refl _) ?_
  exact wk_r hR hC MM_val rfl rfl rfl
set_option maxRecDepth 100000 in
set_option maxHeartbeats 4000000 in
theorem cx_days (l : Launch) (b : Nat) (en ac : Nat → Nat) (D : va_G) (k : Nat) (h1 : 1 ≤ k) (hk : k ≤ 60) : ev_M l b en ac D MM 9 9 [.ref 0, .int (Int32.ofNat k)] ev_hB (some (.int (Int32.ofNat k)), hcd k) := by
  refine ev_mk (by decide +kernel) (Nat.le_of_ble_eq_true rfl) (fun p e s m args below meth c hC => ?_)
  have hR := ev_rmR MM 8 9
  refine wk_s hR hC MM_val rfl rfl (KW_ok ?_)
  refine wk_s hR hC MM_val rfl rfl (KW_ok ?_)
  refine wk_s hR hC MM_val rfl rfl (KW_ok ?_)
  refine wk_cF (show ¬ Int32.ofNat k < Int32.ofNat 1 by rw [Int32.ofNat_lt_iff_lt (by omega) (by omega)]; omega) ?_
  refine wk_s hR hC MM_val rfl rfl (KW_ok ?_)
  refine wk_s hR hC MM_val rfl rfl (KW_ok ?_)
  refine wk_s hR hC MM_val rfl rfl (KW_ok ?_)
  refine wk_cT (show Int32.ofNat k ≤ Int32.ofNat 60 by rw [Int32.ofNat_le_iff_le (by omega) (by omega)]; omega) ?_
  refine wk_s hR hC MM_val rfl rfl (KW_ok ?_)
  refine wk_s hR hC MM_val rfl rfl (KW_ok ?_)
  refine wk_s hR hC MM_val rfl rfl (KW_ok ?_)
  refine wk_V (z := 23) (As := []) (rest := [.int (Int32.ofNat k)]) hR hC MM_val rfl (by decide) (ev_ok l b en ac D MM_val 8 _ _ _ _ (ev_is_ok (dy_left))) rfl rfl rfl (Nat.le_of_ble_eq_true rfl) ⟨Nat.le_refl _, Nat.le_refl _⟩ ?_
  simp only [Option.toList, List.cons_append, List.nil_append]
  refine wk_s hR hC MM_val rfl rfl (KW_ok ?_)
  refine wk_se (st2 := [.int (Int32.ofNat k)]) ?_ ?_
  · have h2 : ¬ (400 : Int32) < Int32.ofNat k := show ¬ Int32.ofNat 400 < Int32.ofNat k by rw [Int32.ofNat_lt_iff_lt (by omega) (by omega)]; omega
    show [Value.int (if (400 : Int32) < Int32.ofNat k then 400 else Int32.ofNat k)] = _
    rw [if_neg h2]
  refine wk_s hR hC MM_val rfl rfl (KW_ok ?_)
  refine wk_s hR hC MM_val rfl rfl (KW_ok ?_)
  refine wk_s hR hC MM_val rfl rfl (KW_ok ?_)
  refine wk_cF (show ¬ Int32.ofNat k ≤ Int32.ofNat 0 by rw [Int32.ofNat_le_iff_le (by omega) (by omega)]; omega) ?_
  refine wk_s hR hC MM_val rfl rfl (KW_ok ?_)
  refine wk_s hR hC MM_val rfl rfl (KW_ok ?_)
  refine wk_s hR hC MM_val rfl rfl (KW_ok ?_)
  refine wk_s hR hC MM_val rfl rfl (KW_ok ?_)
  refine wk_V (z := 39) (As := [.ref 23]) (rest := []) hR hC MM_val rfl (by decide) (ev_ok l b en ac D MM_val 8 _ _ _ _ (ev_is_ok (dy_keep))) rfl rfl rfl (Nat.le_of_ble_eq_true rfl) ⟨Nat.le_refl _, Nat.le_refl _⟩ ?_
  simp only [Option.toList, List.cons_append, List.nil_append]
  refine wk_s hR hC MM_val rfl rfl (KW_ok ?_)
  refine wk_s hR hC MM_val rfl rfl (KW_ok ?_)
  refine wk_s hR hC MM_val rfl rfl (KW_ok ?_)
  refine wk_s hR hC MM_val rfl rfl (KW_ok ?_)
  refine wk_s hR hC MM_val rfl rfl (KW_ok ?_)
  refine wk_V (z := 23) (As := [.ref 3, .int (Int32.ofNat k)]) (rest := []) hR hC MM_val rfl (by decide) (dy_pass l b en ac D k hk) rfl rfl rfl (Nat.le_of_ble_eq_true rfl) ⟨Nat.le_refl _, Nat.le_refl _⟩ ?_
  simp only [Option.toList, List.cons_append, List.nil_append]
  refine wk_s hR hC MM_val rfl rfl (KW_ok ?_)
  exact wk_r hR hC MM_val rfl rfl rfl
def dy_fs (sm : Int32) : List Value := [.int 0, .ref 181, .int 0, .int 0, .int 0, .int 0, .int 0, .int 0, .int 0, .int 0, .int 0, .int 0, .long 0, .int 0, .ref 182, .ref 183, .ref 184, .ref 185, .ref 186, .ref 187, .ref 188, .ref 189, .ref 190, .ref 191, .int sm, .ref 192, .ref 193, .ref 194, .int 0, .int 0, .ref 195, .ref 196, .int 0, .int (-1), .int (-1), .ref 197, .ref 198, .int 0, .int 0, .int 0, .ref 199, .int 0, .int 0, .ref 200, .ref 201, .int 0, .int 0, .ref 202, .int 0, .int 0, .int 0, .int 0]
def dyM (k : Nat) (sm : Int32) (K nw : List Int32) : List AE := (((hcd k).set 180 (.inr (11, dy_fs sm))).set 182 (.inl (1, .inl nw))).set 185 (.inl (1, .inl K))
theorem dy_s0 (h : List AE) (x y z t : AE) : (((h.set 180 x).set 182 y).set 185 z).set 180 t = ((h.set 180 t).set 182 y).set 185 z := by
  rw [List.set_comm _ _ (by decide : (185 : Nat) ≠ 180), List.set_comm _ _ (by decide : (182 : Nat) ≠ 180), List.set_set]
theorem dy_s2 (h : List AE) (x y z t : AE) : (((h.set 180 x).set 182 y).set 185 z).set 182 t = ((h.set 180 x).set 182 t).set 185 z := by
  rw [List.set_comm _ _ (by decide : (185 : Nat) ≠ 182), List.set_set]
theorem dy_s5 (h : List AE) (x y z t : AE) : (((h.set 180 x).set 182 y).set 185 z).set 185 t = ((h.set 180 x).set 182 y).set 185 t := List.set_set _
def dyK : Nat → Nat → List Int32 → List Int32
  | 0, _, K => K
  | r + 1, n, K => dyK r (n + 1) (K.set n (im_now.getD (101 + n) 0))
set_option maxRecDepth 100000 in
set_option maxHeartbeats 4000000 in
theorem dy_sr {p : Program} {l : Launch} {e : Env} {s : State} {m : MethodId} {args : Array Value} {below : List Frame} {meth : Method} {c : Code} {Q : State → Prop} {b : Nat} {en ac : Nat → Nat} {D : va_G} (hC : ev_C p s m args meth c b en ac D MM 150) (k n : Nat) (hn : n < 53) (K : List Int32) (hK : K.length = 424) (w : Wk p l e (ev_rm MM 8 150) s m args below meth c b en ac D MM 150 Q 51 [(1, .int (Int32.ofNat (n + 1))), (0, .ref 180)] [] (dyM k 0 (K.set n (im_now.getD (101 + n) 0)) im_now) 0 0) : Wk p l e (ev_rm MM 8 150) s m args below meth c b en ac D MM 150 Q 51 [(1, .int (Int32.ofNat n)), (0, .ref 180)] [] (dyM k 0 K im_now) 0 0 := by
  have hR := ev_rmR MM 7 150
  have h2 : ev_rd im_now (101 + Int32.ofNat n) = some (im_now.getD (101 + n) 0) := by
    rw [show (101 + Int32.ofNat n : Int32) = Int32.ofNat (101 + n) from (Int32.ofNat_add 101 n).symm]; exact ev_rd_gd im_now 0 (101 + n) (by omega) (by rw [im_now_n]; omega)
  have h5 : (53 * 0 + Int32.ofNat n : Int32) = Int32.ofNat n := (Int32.ofNat_add 0 n).symm.trans (by rw [Nat.zero_add])
  have h3 : ev_rd K (53 * 0 + Int32.ofNat n) = some (K.getD n 0) := by rw [h5]; exact ev_rd_gd K 0 n (by omega) (by omega)
  have h4 : (53 * 0 + Int32.ofNat n : Int32).toNatClampNeg = n := by rw [h5]; exact i_cl _ (by omega)
  refine wk_s hR hC MM_val rfl rfl (KW_ok ?_)
  refine wk_s hR hC MM_val rfl rfl (KW_ok ?_)
  refine wk_s hR hC MM_val rfl rfl (KW_ok ?_)
  refine wk_cF (i_le 53 n (by omega) (by omega) hn) ?_
  refine wk_s hR hC MM_val rfl rfl (KW_ok ?_)
  refine wk_s hR hC MM_val rfl rfl (KW_ok ?_)
  refine wk_s hR hC MM_val rfl rfl (KW_ok ?_)
  refine wk_s hR hC MM_val rfl rfl (KW_ok ?_)
  refine wk_s hR hC MM_val rfl rfl (KW_ok ?_)
  refine wk_s hR hC MM_val rfl rfl (KW_ok ?_)
  refine wk_s hR hC MM_val rfl rfl (KW_ok ?_)
  refine wk_s hR hC MM_val rfl rfl (KW_ok ?_)
  refine wk_s hR hC MM_val rfl rfl (KW_ok ?_)
  refine wk_s hR hC MM_val rfl rfl (KW_ok ?_)
  refine wk_s hR hC MM_val rfl rfl (KW_ok ?_)
  refine wk_s hR hC MM_val rfl rfl (KW_ok ?_)
  refine wk_s hR hC MM_val rfl rfl (KW_ok ?_)
  refine wk_ld (li := im_now) hR hC MM_val rfl rfl h2 ?_
  refine wk_is (li := K) (i := 53 * 0 + Int32.ofNat n) (v := im_now.getD (101 + n) 0) hR hC MM_val rfl rfl h3 ?_
  refine wk_s hR hC MM_val rfl rfl (KW_ok ?_)
  refine wk_s hR hC MM_val rfl rfl (KW_ok ?_)
  refine wk_eq (congrArg (fun v => [(1, Value.int v), (0, Value.ref 180)]) (i_s1 n)) ?_ w
  rw [h4]
  exact dy_s5 _ _ _ _ _
theorem dy_sl {p : Program} {l : Launch} {e : Env} {s : State} {m : MethodId} {args : Array Value} {below : List Frame} {meth : Method} {c : Code} {Q : State → Prop} {b : Nat} {en ac : Nat → Nat} {D : va_G} (hC : ev_C p s m args meth c b en ac D MM 150) (k : Nat) : ∀ (r n : Nat) (K : List Int32), n + r = 53 → K.length = 424 → Wk p l e (ev_rm MM 8 150) s m args below meth c b en ac D MM 150 Q 51 [(1, .int (Int32.ofNat 53)), (0, .ref 180)] [] (dyM k 0 (dyK r n K) im_now) 0 0 → Wk p l e (ev_rm MM 8 150) s m args below meth c b en ac D MM 150 Q 51 [(1, .int (Int32.ofNat n)), (0, .ref 180)] [] (dyM k 0 K im_now) 0 0 := by
  intro r
  induction r with
  | zero =>
    intro n K h hK w
    have h1 : n = 53 := by omega
    rw [h1]; exact w
  | succ r ih =>
    intro n K h hK w
    refine dy_sr hC k n (by omega) K hK ?_
    refine ih (n + 1) _ (by omega) (by rw [List.length_set]; exact hK) ?_
    exact w
def dyK0 : List Int32 := dyK 53 0 (List.replicate 424 0)
set_option maxRecDepth 100000 in
set_option maxHeartbeats 4000000 in
theorem dy_snap (l : Launch) (b : Nat) (en ac : Nat → Nat) (D : va_G) (k : Nat) : ev_M l b en ac D MM 8 150 [.ref 180] (dyM k 0 (List.replicate 424 0) im_now) (none, dyM k 1 dyK0 im_now) := by
  refine ev_mk (by decide +kernel) (Nat.le_of_ble_eq_true rfl) (fun p e s m args below meth c hC => ?_)
  have hR := ev_rmR MM 7 150
  refine wk_s hR hC MM_val rfl rfl (KW_ok ?_)
  refine wk_s hR hC MM_val rfl rfl (KW_ok ?_)
  refine wk_s hR hC MM_val rfl rfl (KW_ok ?_)
  refine wk_s hR hC MM_val rfl rfl (KW_ok ?_)
  refine wk_pF rfl ?_
  refine wk_s hR hC MM_val rfl rfl (KW_ok ?_)
  refine wk_s hR hC MM_val rfl rfl (KW_ok ?_)
  refine dy_sl hC k 53 0 _ (by omega) List.length_replicate ?_
  refine wk_s hR hC MM_val rfl rfl (KW_ok ?_)
  refine wk_s hR hC MM_val rfl rfl (KW_ok ?_)
  refine wk_s hR hC MM_val rfl rfl (KW_ok ?_)
  refine wk_pT rfl ?_
  refine wk_s hR hC MM_val rfl rfl (KW_ok ?_)
  refine wk_s hR hC MM_val rfl rfl (KW_ok ?_)
  refine wk_s hR hC MM_val rfl rfl (KW_ok ?_)
  refine wk_s hR hC MM_val rfl rfl (KW_ok ?_)
  refine wk_s hR hC MM_val rfl rfl (KW_ok ?_)
  refine wk_s hR hC MM_val rfl rfl (KW_ok ?_)
  refine wk_eq (hp' := dyM k 1 dyK0 im_now) rfl (dy_s0 _ _ _ _ _) ?_
  exact wk_r hR hC MM_val rfl rfl rfl
def dyP (nw : List Int32) : Prop := nw.length = 396 ∧ nw.getD 0 0 = 0 ∧ ∀ n, n < 7 → nw.getD (118 + n) 0 = 0
theorem dyP_set {nw : List Int32} (h : dyP nw) (i : Nat) (v : Int32) (h0 : i ≠ 0) (h1 : i < 118 ∨ 125 ≤ i) : dyP (nw.set i v) := by
  refine ⟨by rw [List.length_set]; exact h.1, ?_, fun n hn => ?_⟩
  · rw [List.getD_eq_getElem?_getD, List.getElem?_set_ne h0, ← List.getD_eq_getElem?_getD]; exact h.2.1
  · rw [List.getD_eq_getElem?_getD, List.getElem?_set_ne (by omega), ← List.getD_eq_getElem?_getD]; exact h.2.2 n hn
def dyZ : Nat → Nat → List Int32 → List Int32
  | 0, _, K => K
  | r + 1, n, K => dyZ r (n + 1) (K.set (139 + n) 0)
theorem dyP_Z : ∀ (r n : Nat) (nw : List Int32), dyP nw → dyP (dyZ r n nw)
  | 0, _, _, h => h
  | r + 1, n, nw, h => dyP_Z r (n + 1) _ (dyP_set h _ _ (by omega) (by omega))
def dyF (nw : List Int32) : List Int32 := (dyZ 7 0 nw).set 101 ((dyZ 7 0 nw).getD 101 0 + 1)
theorem dyP_F {nw : List Int32} (h : dyP nw) : dyP (dyF nw) := dyP_set (dyP_Z 7 0 nw h) _ _ (by omega) (by omega)
set_option maxRecDepth 100000 in
set_option maxHeartbeats 4000000 in
theorem dy_jail (l : Launch) (b : Nat) (en ac : Nat → Nat) (D : va_G) (k : Nat) (K nw : List Int32) (hp : dyP nw) (n : Nat) (hn : n < 7) : ev_M l b en ac D MM 6 124 [.ref 180, .int (Int32.ofNat n)] (dyM k 1 K nw) (some (.int 0), (dyM k 1 K nw)) := by
  refine ev_mk (by decide +kernel) (Nat.le_of_ble_eq_true rfl) (fun p e s m args below meth c hC => ?_)
  have hR := ev_rmR MM 5 124
  have h2 : ev_rd nw (118 + Int32.ofNat n) = some 0 := by
    rw [show (118 + Int32.ofNat n : Int32) = Int32.ofNat (118 + n) from (Int32.ofNat_add 118 n).symm, ev_rd_gd nw 0 (118 + n) (by omega) (by rw [hp.1]; omega), hp.2.2 n hn]
  refine wk_s hR hC MM_val rfl rfl (KW_ok ?_)
  refine wk_s hR hC MM_val rfl rfl (KW_ok ?_)
  refine wk_s hR hC MM_val rfl rfl (KW_ok ?_)
  refine wk_s hR hC MM_val rfl rfl (KW_ok ?_)
  refine wk_s hR hC MM_val rfl rfl (KW_ok ?_)
  refine wk_ld (li := nw) hR hC MM_val rfl rfl h2 ?_
  refine wk_s hR hC MM_val rfl rfl (KW_ok ?_)
  refine wk_pT rfl ?_
  refine wk_s hR hC MM_val rfl rfl (KW_ok ?_)
  exact wk_r hR hC MM_val rfl rfl rfl
set_option maxRecDepth 100000 in
set_option maxHeartbeats 4000000 in
theorem dy_or {p : Program} {l : Launch} {e : Env} {s : State} {m : MethodId} {args : Array Value} {below : List Frame} {meth : Method} {c : Code} {Q : State → Prop} {b : Nat} {en ac : Nat → Nat} {D : va_G} (hC : ev_C p s m args meth c b en ac D MM 134) (k : Nat) (K nw : List Int32) (hp : dyP nw) (n : Nat) (hn : n < 7) (w : Wk p l e (ev_rm MM 7 134) s m args below meth c b en ac D MM 134 Q 111 [(1, .int (Int32.ofNat (n + 1))), (0, .ref 180)] [] (dyM k 1 K (nw.set (139 + n) 0)) 0 0) : Wk p l e (ev_rm MM 7 134) s m args below meth c b en ac D MM 134 Q 111 [(1, .int (Int32.ofNat n)), (0, .ref 180)] [] (dyM k 1 K nw) 0 0 := by
  have hR := ev_rmR MM 6 134
  have h5 : (139 + Int32.ofNat n : Int32) = Int32.ofNat (139 + n) := (Int32.ofNat_add 139 n).symm
  have h3 : ev_rd nw (139 + Int32.ofNat n) = some (nw.getD (139 + n) 0) := by rw [h5]; exact ev_rd_gd nw 0 (139 + n) (by omega) (by rw [hp.1]; omega)
  have h4 : (139 + Int32.ofNat n : Int32).toNatClampNeg = 139 + n := by rw [h5]; exact i_cl _ (by omega)
  refine wk_s hR hC MM_val rfl rfl (KW_ok ?_)
  refine wk_s hR hC MM_val rfl rfl (KW_ok ?_)
  refine wk_s hR hC MM_val rfl rfl (KW_ok ?_)
  refine wk_cF (i_le 7 n (by omega) (by omega) hn) ?_
  refine wk_s hR hC MM_val rfl rfl (KW_ok ?_)
  refine wk_s hR hC MM_val rfl rfl (KW_ok ?_)
  refine wk_V (z := 180) (As := [.int (Int32.ofNat n)]) (rest := []) hR hC MM_val rfl (by decide) (dy_jail l b en ac D k K nw hp n hn) rfl rfl rfl (Nat.le_of_ble_eq_true rfl) ⟨Nat.le_refl _, Nat.le_refl _⟩ ?_
  simp only [Option.toList, List.cons_append, List.nil_append]
  refine wk_s hR hC MM_val rfl rfl (KW_ok ?_)
  refine wk_pT rfl ?_
  refine wk_s hR hC MM_val rfl rfl (KW_ok ?_)
  refine wk_s hR hC MM_val rfl rfl (KW_ok ?_)
  refine wk_s hR hC MM_val rfl rfl (KW_ok ?_)
  refine wk_s hR hC MM_val rfl rfl (KW_ok ?_)
  refine wk_s hR hC MM_val rfl rfl (KW_ok ?_)
  refine wk_s hR hC MM_val rfl rfl (KW_ok ?_)
  refine wk_is (li := nw) (i := 139 + Int32.ofNat n) (v := 0) hR hC MM_val rfl rfl h3 ?_
  refine wk_s hR hC MM_val rfl rfl (KW_ok ?_)
  refine wk_s hR hC MM_val rfl rfl (KW_ok ?_)
  refine wk_eq (congrArg (fun v => [(1, Value.int v), (0, Value.ref 180)]) (i_s1 n)) ?_ w
  rw [h4]
  exact dy_s2 _ _ _ _ _
theorem dy_ol {p : Program} {l : Launch} {e : Env} {s : State} {m : MethodId} {args : Array Value} {below : List Frame} {meth : Method} {c : Code} {Q : State → Prop} {b : Nat} {en ac : Nat → Nat} {D : va_G} (hC : ev_C p s m args meth c b en ac D MM 134) (k : Nat) (K : List Int32) : ∀ (r n : Nat) (nw : List Int32), n + r = 7 → dyP nw → Wk p l e (ev_rm MM 7 134) s m args below meth c b en ac D MM 134 Q 111 [(1, .int (Int32.ofNat 7)), (0, .ref 180)] [] (dyM k 1 K (dyZ r n nw)) 0 0 → Wk p l e (ev_rm MM 7 134) s m args below meth c b en ac D MM 134 Q 111 [(1, .int (Int32.ofNat n)), (0, .ref 180)] [] (dyM k 1 K nw) 0 0 := by
  intro r
  induction r with
  | zero =>
    intro n nw h hp w
    have h1 : n = 7 := by omega
    rw [h1]; exact w
  | succ r ih =>
    intro n nw h hp w
    refine dy_or hC k K nw hp n (by omega) ?_
    refine ih (n + 1) _ (by omega) (dyP_set hp _ _ (by omega) (by omega)) ?_
    exact w
set_option maxRecDepth 100000 in
set_option maxHeartbeats 4000000 in
theorem dy_one (l : Launch) (b : Nat) (en ac : Nat → Nat) (D : va_G) (k : Nat) (K nw : List Int32) (hp : dyP nw) : ev_M l b en ac D MM 7 134 [.ref 180] (dyM k 1 K nw) (none, (dyM k 1 K (dyF nw))) := by
  refine ev_mk (by decide +kernel) (Nat.le_of_ble_eq_true rfl) (fun p e s m args below meth c hC => ?_)
  have hR := ev_rmR MM 6 134
  have h0 : ev_rd nw 0 = some 0 := by
    have h := ev_rd_gd nw 0 0 (by omega) (by rw [hp.1]; omega)
    rw [hp.2.1] at h; exact h
  have h1 : ev_rd (dyZ 7 0 nw) 101 = some ((dyZ 7 0 nw).getD 101 0) := ev_rd_gd (dyZ 7 0 nw) 0 101 (by omega) (by rw [(dyP_Z 7 0 nw hp).1]; omega)
  refine wk_s hR hC MM_val rfl rfl (KW_ok ?_)
  refine wk_s hR hC MM_val rfl rfl (KW_ok ?_)
  refine wk_s hR hC MM_val rfl rfl (KW_ok ?_)
  refine wk_s hR hC MM_val rfl rfl (KW_ok ?_)
  refine wk_s hR hC MM_val rfl rfl (KW_ok ?_)
  refine wk_s hR hC MM_val rfl rfl (KW_ok ?_)
  refine wk_ld (li := nw) hR hC MM_val rfl rfl h0 ?_
  refine wk_s hR hC MM_val rfl rfl (KW_ok ?_)
  refine wk_pT rfl ?_
  refine wk_s hR hC MM_val rfl rfl (KW_ok ?_)
  refine wk_s hR hC MM_val rfl rfl (KW_ok ?_)
  refine dy_ol hC k K 7 0 nw (by omega) hp ?_
  refine wk_s hR hC MM_val rfl rfl (KW_ok ?_)
  refine wk_s hR hC MM_val rfl rfl (KW_ok ?_)
  refine wk_s hR hC MM_val rfl rfl (KW_ok ?_)
  refine wk_pT rfl ?_
  refine wk_s hR hC MM_val rfl rfl (KW_ok ?_)
  refine wk_s hR hC MM_val rfl rfl (KW_ok ?_)
  refine wk_s hR hC MM_val rfl rfl (KW_ok ?_)
  refine wk_s hR hC MM_val rfl rfl (KW_ok ?_)
  refine wk_ld (li := dyZ 7 0 nw) hR hC MM_val rfl rfl h1 ?_
  refine wk_s hR hC MM_val rfl rfl (KW_ok ?_)
  refine wk_s hR hC MM_val rfl rfl (KW_ok ?_)
  refine wk_is (li := dyZ 7 0 nw) (i := 101) (v := (dyZ 7 0 nw).getD 101 0 + 1) hR hC MM_val rfl rfl h1 ?_
  refine wk_eq (hp' := (dyM k 1 K (dyF nw))) rfl (dy_s2 _ _ _ _ _) ?_
  exact wk_r hR hC MM_val rfl rfl rfl
def dyI : Nat → List Int32 → List Int32
  | 0, nw => nw
  | r + 1, nw => dyI r (dyF nw)
set_option maxRecDepth 100000 in
set_option maxHeartbeats 4000000 in
theorem dy_pr {p : Program} {l : Launch} {e : Env} {s : State} {m : MethodId} {args : Array Value} {below : List Frame} {meth : Method} {c : Code} {Q : State → Prop} {b : Nat} {en ac : Nat → Nat} {D : va_G} (hC : ev_C p s m args meth c b en ac D MM 138) (k z : Nat) (hz : z ≤ 60) (K nw : List Int32) (hp : dyP nw) (n : Nat) (hn : n < z) (w : Wk p l e (ev_rm MM 8 138) s m args below meth c b en ac D MM 138 Q 18 [(3, .int (Int32.ofNat (n + 1))), (2, .int (Int32.ofNat z)), (0, .ref 180), (1, .int (Int32.ofNat z))] [] (dyM k 1 K (dyF nw)) 0 0) : Wk p l e (ev_rm MM 8 138) s m args below meth c b en ac D MM 138 Q 18 [(3, .int (Int32.ofNat n)), (2, .int (Int32.ofNat z)), (0, .ref 180), (1, .int (Int32.ofNat z))] [] (dyM k 1 K nw) 0 0 := by
  have hR := ev_rmR MM 7 138
  refine wk_s hR hC MM_val rfl rfl (KW_ok ?_)
  refine wk_s hR hC MM_val rfl rfl (KW_ok ?_)
  refine wk_s hR hC MM_val rfl rfl (KW_ok ?_)
  refine wk_cF (i_le z n (by omega) (by omega) hn) ?_
  refine wk_s hR hC MM_val rfl rfl (KW_ok ?_)
  refine wk_V (z := 180) (As := []) (rest := []) hR hC MM_val rfl (by decide) (dy_one l b en ac D k K nw hp) rfl rfl rfl (Nat.le_of_ble_eq_true rfl) ⟨Nat.le_refl _, Nat.le_refl _⟩ ?_
  simp only [Option.toList, List.cons_append, List.nil_append]
  refine wk_s hR hC MM_val rfl rfl (KW_ok ?_)
  refine wk_s hR hC MM_val rfl rfl (KW_ok ?_)
  refine wk_eq (congrArg (fun v => [(3, Value.int v), (2, Value.int (Int32.ofNat z)), (0, Value.ref 180), (1, Value.int (Int32.ofNat z))]) (i_s1 n)) rfl w
theorem dy_pl {p : Program} {l : Launch} {e : Env} {s : State} {m : MethodId} {args : Array Value} {below : List Frame} {meth : Method} {c : Code} {Q : State → Prop} {b : Nat} {en ac : Nat → Nat} {D : va_G} (hC : ev_C p s m args meth c b en ac D MM 138) (k z : Nat) (hz : z ≤ 60) (K : List Int32) : ∀ (r n : Nat) (nw : List Int32), n + r = z → dyP nw → Wk p l e (ev_rm MM 8 138) s m args below meth c b en ac D MM 138 Q 18 [(3, .int (Int32.ofNat z)), (2, .int (Int32.ofNat z)), (0, .ref 180), (1, .int (Int32.ofNat z))] [] (dyM k 1 K (dyI r nw)) 0 0 → Wk p l e (ev_rm MM 8 138) s m args below meth c b en ac D MM 138 Q 18 [(3, .int (Int32.ofNat n)), (2, .int (Int32.ofNat z)), (0, .ref 180), (1, .int (Int32.ofNat z))] [] (dyM k 1 K nw) 0 0 := by
  intro r
  induction r with
  | zero =>
    intro n nw h hp w
    have h1 : n = z := by omega
    rw [h1]; exact w
  | succ r ih =>
    intro n nw h hp w
    refine dy_pr hC k z hz K nw hp n (by omega) ?_
    refine ih (n + 1) _ (by omega) (dyP_F hp) ?_
    exact w
set_option maxRecDepth 100000 in
set_option maxHeartbeats 4000000 in
theorem dy_least (l : Launch) (b : Nat) (en ac : Nat → Nat) (D : va_G) (d : Nat) (v u : Int32) (h : ¬ u ≤ v) (hp : List AE) : ev_M l b en ac D MM (d + 1) 131 [.int v, .int u] hp (some (.int v), hp) := by
  refine ev_mk (by decide +kernel) (Nat.le_of_ble_eq_true rfl) (fun p e s m args below meth c hC => ?_)
  have hR := ev_rmR MM d 131
  refine wk_s hR hC MM_val rfl rfl (KW_ok ?_)
  refine wk_s hR hC MM_val rfl rfl (KW_ok ?_)
  refine wk_s hR hC MM_val rfl rfl (KW_ok ?_)
  refine wk_cF h ?_
  refine wk_s hR hC MM_val rfl rfl (KW_ok ?_)
  refine wk_s hR hC MM_val rfl rfl (KW_ok ?_)
  exact wk_r hR hC MM_val rfl rfl rfl
theorem dyP_now : dyP im_now := ⟨im_now_n, by decide +kernel, by decide +kernel⟩
set_option maxRecDepth 100000 in
set_option maxHeartbeats 4000000 in
theorem dy_mp (l : Launch) (b : Nat) (en ac : Nat → Nat) (D : va_G) (k z : Nat) (hz : z ≤ 60) (K : List Int32) : ev_M l b en ac D MM 8 138 [.ref 180, .int (Int32.ofNat z)] (dyM k 1 K im_now) (some (.int (Int32.ofNat z)), (dyM k 1 K (dyI z im_now))) := by
  refine ev_mk (by decide +kernel) (Nat.le_of_ble_eq_true rfl) (fun p e s m args below meth c hC => ?_)
  have hR := ev_rmR MM 7 138
  have h1 : ¬ ((400 - 0 : Int32) ≤ Int32.ofNat z) := by rw [show (400 - 0 : Int32) = Int32.ofNat 400 by decide +kernel]; exact i_le 400 z (by omega) (by omega) (by omega)
  refine wk_s hR hC MM_val rfl rfl (KW_ok ?_)
  refine wk_s hR hC MM_val rfl rfl (KW_ok ?_)
  refine wk_s hR hC MM_val rfl rfl (KW_ok ?_)
  refine wk_s hR hC MM_val rfl rfl (KW_ok ?_)
  refine wk_s hR hC MM_val rfl rfl (KW_ok ?_)
  refine wk_ld (li := im_now) (v := 0) hR hC MM_val rfl rfl (by decide +kernel) ?_
  refine wk_s hR hC MM_val rfl rfl (KW_ok ?_)
  refine wk_S (As := [.int (Int32.ofNat z), .int (400 - 0)]) (rest := []) hR hC MM_val rfl (by decide) (dy_least l b en ac D 6 (Int32.ofNat z) (400 - 0) h1 _) rfl rfl (Nat.le_of_ble_eq_true rfl) ⟨Nat.le_refl _, Nat.le_refl _⟩ ?_
  simp only [Option.toList, List.cons_append, List.nil_append]
  refine wk_s hR hC MM_val rfl rfl (KW_ok ?_)
  refine wk_s hR hC MM_val rfl rfl (KW_ok ?_)
  refine wk_s hR hC MM_val rfl rfl (KW_ok ?_)
  refine dy_pl hC k z hz K z 0 im_now (by omega) dyP_now ?_
  refine wk_s hR hC MM_val rfl rfl (KW_ok ?_)
  refine wk_s hR hC MM_val rfl rfl (KW_ok ?_)
  refine wk_s hR hC MM_val rfl rfl (KW_ok ?_)
  refine wk_cT (Int32.le_refl _) ?_
  refine wk_s hR hC MM_val rfl rfl (KW_ok ?_)
  exact wk_r hR hC MM_val rfl rfl rfl
theorem dy_th (k : Nat) : (hcd k).set 180 (.inr (11, (dy_fs 0).set 0 (.int 0))) = dyM k 0 (List.replicate 424 0) im_now := by
  have h : ∀ t : AE, ((ev_hB.set 39 (.inr (6, [.ref 40, .int 0, .int 1]))).set 180 (.inr (11, (dy_fs 0).set 0 (.int 0)))) = ((((ev_hB.set 39 (.inr (6, [.ref 40, .int 0, .int 1])))).set 180 (.inr (11, dy_fs 0))).set 182 (.inl (1, .inl im_now))).set 185 (.inl (1, .inl (List.replicate 424 0))) := fun _ => hp_eq_ok (by decide +kernel)
  unfold dyM hcd
  rw [List.set_comm _ _ (by decide : (23 : Nat) ≠ 180), h (.inr (0, [])), List.set_comm _ _ (by decide : (23 : Nat) ≠ 180), List.set_comm _ _ (by decide : (23 : Nat) ≠ 182), List.set_comm _ _ (by decide : (23 : Nat) ≠ 185)]
set_option maxRecDepth 100000 in
set_option maxHeartbeats 4000000 in
theorem cm_days (l : Launch) (b : Nat) (en ac : Nat → Nat) (D : va_G) (k : Nat) (h1 : 1 ≤ k) (hk : k ≤ 60) : ev_M l b en ac D MM 9 104 [.ref 180, .int (Int32.ofNat k)] (hcd k) (some (.int (Int32.ofNat k)), (dyM k 1 dyK0 (dyI k im_now))) := by
  refine ev_mk (by decide +kernel) (Nat.le_of_ble_eq_true rfl) (fun p e s m args below meth c hC => ?_)
  have hR := ev_rmR MM 8 104
  refine wk_s hR hC MM_val rfl rfl (KW_ok ?_)
  refine wk_s hR hC MM_val rfl rfl (KW_ok ?_)
  refine wk_s hR hC MM_val rfl rfl (KW_ok ?_)
  refine wk_eq rfl (dy_th k) ?_
  refine wk_s hR hC MM_val rfl rfl (KW_ok ?_)
  refine wk_s hR hC MM_val rfl rfl (KW_ok ?_)
  refine wk_s hR hC MM_val rfl rfl (KW_ok ?_)
  refine wk_S (As := [.int (Int32.ofNat k), .int 1, .int 60]) (rest := []) hR hC MM_val rfl (by decide) (mi_yes l b en ac D 7 (Int32.ofNat k) 1 60 (show ¬ Int32.ofNat k < Int32.ofNat 1 by rw [Int32.ofNat_lt_iff_lt (by omega) (by omega)]; omega) (show ¬ Int32.ofNat 60 < Int32.ofNat k by rw [Int32.ofNat_lt_iff_lt (by omega) (by omega)]; omega) _) rfl rfl (Nat.le_of_ble_eq_true rfl) ⟨Nat.le_refl _, Nat.le_refl _⟩ ?_
  simp only [Option.toList, List.cons_append, List.nil_append]
  refine wk_s hR hC MM_val rfl rfl (KW_ok ?_)
  refine wk_pF rfl ?_
  refine wk_s hR hC MM_val rfl rfl (KW_ok ?_)
  refine wk_s hR hC MM_val rfl rfl (KW_ok ?_)
  refine wk_s hR hC MM_val rfl rfl (KW_ok ?_)
  refine wk_ld (li := im_now) (v := 0) hR hC MM_val rfl rfl (by decide +kernel) ?_
  refine wk_s hR hC MM_val rfl rfl (KW_ok ?_)
  refine wk_s hR hC MM_val rfl rfl (KW_ok ?_)
  refine wk_pF rfl ?_
  refine wk_s hR hC MM_val rfl rfl (KW_ok ?_)
  refine wk_V (z := 180) (As := []) (rest := []) hR hC MM_val rfl (by decide) (dy_snap l b en ac D k) rfl rfl rfl (Nat.le_of_ble_eq_true rfl) ⟨Nat.le_refl _, Nat.le_refl _⟩ ?_
  simp only [Option.toList, List.cons_append, List.nil_append]
  refine wk_s hR hC MM_val rfl rfl (KW_ok ?_)
  refine wk_s hR hC MM_val rfl rfl (KW_ok ?_)
  refine wk_V (z := 180) (As := [.int (Int32.ofNat k)]) (rest := []) hR hC MM_val rfl (by decide) (dy_mp l b en ac D k k hk dyK0) rfl rfl rfl (Nat.le_of_ble_eq_true rfl) ⟨Nat.le_refl _, Nat.le_refl _⟩ ?_
  simp only [Option.toList, List.cons_append, List.nil_append]
  exact wk_r hR hC MM_val rfl rfl rfl
