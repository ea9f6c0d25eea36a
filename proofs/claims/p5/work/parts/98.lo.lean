/-! ===== each call of the law ===== -/
theorem lw_mem2 (a b v w x y z : Value) : ([(4, v), (3, w), (2, x), (1, y), (0, z)] : List (Nat × Value)).all (fun q => ((6, b) :: (5, a) :: ([(4, v), (3, w), (2, x), (1, y), (0, z)] : List (Nat × Value))).any (fun r => decide (r = q))) = true := by
  simp
theorem lw_k0 : 601024 ≤ mC MM 300 := by decide +kernel
theorem lw_s0 : 7293034 ≤ mS MM 300 := by decide +kernel
theorem pe_w8 : ∀ w ∈ va_wsS "LeftAnswersLaw" 38 (mY MM 302) (.codeWith (mY MM 302) (mB MM 302) (mL MM 302) (mR MM 302) [(0, 10, 13, 13)] :: gtb), w ∈ gtb := by
  intro u hu
  rcases List.mem_append.mp hu with hu | hu
  · have h : ∀ w ∈ [Cond.methodLink "LeftAnswersLaw" 38 (mY MM 302), Cond.static (mY MM 302), Cond.initialized (mY MM 302).cls], w ∈ gtb := by decide +kernel
    exact h u hu
  · rcases List.mem_cons.mp hu with rfl | hu
    · have h : Cond.codeWith (mY MM 302) (mB MM 302) (mL MM 302) (mR MM 302) [(0, 10, 13, 13)] ∈ gtb := by decide +kernel
      exact h
    · exact hu
theorem pe_w9 : (mY MM 302).cls ≠ "java/lang/invoke/MethodHandle" ∧ (mY MM 302).cls ≠ "java/lang/invoke/VarHandle" ∧ (parseMethodDescriptor (mY MM 302).desc).map (fun d => d.parameters.length) = some 4 := by decide +kernel
set_option maxRecDepth 100000 in
theorem pe_dw : decode (mB MM 300) 350 = .ok (.invokestatic 38, 3) := by decide +kernel
set_option maxRecDepth 100000 in
theorem pe_rm : 103 + 1 ≤ room_1.frames ∧ 8 + (mL MM 302 + 11) + (64 * 100 + 256) ≤ room_1.locals ∧ 601024 ≤ room_1.cells ∧ 7293034 ≤ room_1.slots := by decide +kernel
set_option maxRecDepth 100000 in
set_option maxHeartbeats 4000000 in
theorem pe_call {p : Program} {l : Launch} {e : Env} {s : State} {m : MethodId} {below : List Frame} {meth : Method} {c : Code} {en ac : Nat → Nat} {D : va_G} {b0 : Nat} {L : List (Nat × Value)} {k ks : Nat} (hl : l.stackTraces = false) (hT : pe_T s.heap.size s s.heap) (hC : ex_C p s m #[Value.ref b0] meth c s.heap.size en ac D MM 300) {hp hc : List AE} {r : Int32} (I : LInv hp) (z z2 : Int32) (hk : k + 1 ≤ 601024) (hks : ks + 6 ≤ 7293034) (hlen : hc.length = hp.length) (m1 : ev_M l s.heap.size en ac D MM 98 28 [.ref 0, .int z] hp (some (.int r), hc)) (hcs : r = 0 ∨ (r = 1 ∧ (z2 < 0 ∨ 7 < z2))) (w2 : LK p l e s m below meth c en ac D b0 353 L [.int 1] (pe_h hc) (k + 1) (ks + 6)) : LK p l e s m below meth c en ac D b0 350 L [.ref 203, .int z2, .int z, .ref 0] hp k ks := by
  intro H locs ls w hl9
  obtain ⟨hx, hb, hml, hown, hts, hK, hE, hbs, hlocks, hret, hname⟩ := hC
  obtain ⟨fs, hrec⟩ := hp_x I.1
  refine ev_sized (fun hz0 => ?_)
  have hz := ev_size w hbs hz0
  exact ev_aft (M := MM) (mi := 300) (x := 302) (rest := []) (res := (none, [])) (L := L) (q := (some (.int 1), pe_h hc)) (K := KW (LK p l e s m below meth c en ac D b0) (none, [])) (fun _ _ _ _ _ _ h => KW_of h) (vx_runSW (As := [.ref 0, .int z, .int z2, .ref 203].map (ev_v s.heap.size en)) (rest := ([] : List Value).map (ev_v s.heap.size en)) (n := 4) ⟨hx, hb, hml, hown, hts⟩ (pe_l l s.heap.size en ac D hl z z2 hrec hlen m1 hcs) (vx_cwSW 4 hts (gtb_all pe_w8) rfl rfl rfl pe_w9 ⟨pe_rm.1, pe_rm.2.1⟩) ⟨pe_blind, fun U hU hW => ⟨rfl, pe_Uof w hK hE hT hz hU hW⟩⟩ rfl rfl hl9.1 rfl (Nat.le_of_ble_eq_true rfl) pe_dw ⟨Nat.le_trans hk pe_rm.2.2.1, Nat.le_trans hks pe_rm.2.2.2⟩) w hz (KW_ok w2) hl9
set_option maxRecDepth 100000 in
set_option maxHeartbeats 4000000 in
theorem pe_call0 {p : Program} {l : Launch} {e : Env} {s : State} {m : MethodId} {below : List Frame} {meth : Method} {c : Code} {en ac : Nat → Nat} {D : va_G} {b0 : Nat} {L : List (Nat × Value)} {k ks : Nat} (hC : ex_C p s m #[Value.ref b0] meth c s.heap.size en ac D MM 300) {hp hc : List AE} {r : Int32} (I : LInv hp) (I1 : LInv hc) (z z2 : Int32) (hk : k ≤ 601024) (hks : ks ≤ 7293034) (m1 : ev_M l s.heap.size en ac D MM 99 34 [.ref 0, .int z, .int z2] hp (some (.int r), hc)) (w2 : LK p l e s m below meth c en ac D b0 353 L [.int 0] (hc.set 203 (.inl (2, .inr (.inl [r.toInt64])))) k ks) : LK p l e s m below meth c en ac D b0 350 L [.ref 203, .int z2, .int z, .ref 0] hp k ks := by
  intro H locs ls w hl9
  obtain ⟨hx, hb, hml, hown, hts, hK, hE, hbs, hlocks, hret, hname⟩ := hC
  obtain ⟨fs, hrec⟩ := hp_x I.1
  obtain ⟨w0, hal⟩ := li_al I1
  refine ev_sized (fun hz0 => ?_)
  have hz := ev_size w hbs hz0
  exact ev_aft (M := MP) (mi := 300) (x := 302) (rest := []) (res := (none, [])) (L := L) (q := (some (.int 0), hc.set 203 (.inl (2, .inr (.inl [r.toInt64]))))) (K := KW (LK p l e s m below meth c en ac D b0) (none, [])) (fun _ _ _ _ _ _ h => KW_of h) (vx_runSW (As := [.ref 0, .int z, .int z2, .ref 203].map (ev_v s.heap.size en)) (rest := ([] : List Value).map (ev_v s.heap.size en)) (n := 4) ⟨hx, hb, hml, hown, hts⟩ (pe_l0 l s.heap.size en ac D z z2 hrec hal m1) (vx_cwSW 4 hts (gtb_all pe_w8) rfl rfl rfl pe_w9 ⟨pe_rm.1, pe_rm.2.1⟩) ⟨ev_U_blind, fun U hU hW => ⟨rfl, ev_Uof w hK hE hz hU hW⟩⟩ rfl rfl hl9.1 rfl (Nat.le_of_ble_eq_true rfl) pe_dw ⟨Nat.le_trans hk pe_rm.2.2.1, Nat.le_trans hks pe_rm.2.2.2⟩) w hz (KW_ok w2) hl9
set_option maxRecDepth 100000 in
set_option maxHeartbeats 4000000 in
/-- feed -/
theorem lo_0 {p : Program} {l : Launch} {e : Env} {s : State} {m : MethodId} {below : List Frame} {meth : Method} {c : Code} {en ac : Nat → Nat} {D : va_G} {b0 : Nat} {n Ln k ks : Nat} {xs : Nat → Int32} {hp : List AE} (hC : ex_C p s m #[Value.ref b0] meth c s.heap.size en ac D MM 300) (hX : va_X b0 Ln xs s s.heap) (hbl : b0 < s.heap.size) (hen : en 200 = b0) (hn : n + 6 ≤ Ln) (hL : Ln ≤ 3072) (I : LIX hp) (hk : k ≤ 601024) (hks : ks ≤ 7293034) (next : ∀ hd, LIX hd → LK p l e s m below meth c en ac D b0 1250 [(4, .int (Int32.ofNat n)), (3, .ref 203), (2, .ref 180), (1, .ref 0), (0, .retAddr 200)] [] hd k ks) : LK p l e s m below meth c en ac D b0 212 [(4, .int (Int32.ofNat n)), (3, .ref 203), (2, .ref 180), (1, .ref 0), (0, .retAddr 200)] [] hp k ks := by
  have hR := lw_hR
  obtain ⟨r, hc, hd, fs, gs, m1, m2, I2, f1, g1, X2⟩ := op_feed l s.heap.size en ac D I.1 (xs (n + 1)) (xs (n + 2)) (xs (n + 3)) (xs (n + 4)) (xs (n + 5))
  repeat (refine wk_s hR hC MM_val rfl rfl (KW_ok ?_); try dsimp only)
  refine lw_sl2 hC hX hbl hen rfl (lw_a1 n) (lw_b1 hn) hL ?_
  repeat (refine wk_s hR hC MM_val rfl rfl (KW_ok ?_); try dsimp only)
  refine lw_sl2 hC hX hbl hen rfl (lw_a2 n) (lw_b2 hn) hL ?_
  repeat (refine wk_s hR hC MM_val rfl rfl (KW_ok ?_); try dsimp only)
  refine lw_sl2 hC hX hbl hen rfl (lw_a3 n) (lw_b3 hn) hL ?_
  repeat (refine wk_s hR hC MM_val rfl rfl (KW_ok ?_); try dsimp only)
  refine lw_sl2 hC hX hbl hen rfl (lw_a4 n) (lw_b4 hn) hL ?_
  repeat (refine wk_s hR hC MM_val rfl rfl (KW_ok ?_); try dsimp only)
  refine lw_sl2 hC hX hbl hen rfl (lw_a5 n) (lw_b5 hn) hL ?_
  repeat (refine wk_s hR hC MM_val rfl rfl (KW_ok ?_); try dsimp only)
  refine wk_V (z := 0) (As := [.int (xs (n + 1)), .int (xs (n + 2)), .int (xs (n + 3)), .int (xs (n + 4)), .int (xs (n + 5))]) (rest := []) hR hC MM_val rfl (by decide) m1 f1 rfl rfl (Nat.le_of_ble_eq_true rfl) ⟨Nat.le_trans hk lw_k0, Nat.le_trans hks lw_s0⟩ ?_
  simp only [Option.toList, List.cons_append, List.nil_append]
  repeat (refine wk_s hR hC MM_val rfl rfl (KW_ok ?_); try dsimp only)
  refine lw_sl2 hC hX hbl hen rfl (lw_a1 n) (lw_b1 hn) hL ?_
  repeat (refine wk_s hR hC MM_val rfl rfl (KW_ok ?_); try dsimp only)
  refine lw_sl2 hC hX hbl hen rfl (lw_a2 n) (lw_b2 hn) hL ?_
  repeat (refine wk_s hR hC MM_val rfl rfl (KW_ok ?_); try dsimp only)
  refine lw_sl2 hC hX hbl hen rfl (lw_a3 n) (lw_b3 hn) hL ?_
  repeat (refine wk_s hR hC MM_val rfl rfl (KW_ok ?_); try dsimp only)
  refine lw_sl2 hC hX hbl hen rfl (lw_a4 n) (lw_b4 hn) hL ?_
  repeat (refine wk_s hR hC MM_val rfl rfl (KW_ok ?_); try dsimp only)
  refine lw_sl2 hC hX hbl hen rfl (lw_a5 n) (lw_b5 hn) hL ?_
  repeat (refine wk_s hR hC MM_val rfl rfl (KW_ok ?_); try dsimp only)
  refine wk_V (z := 180) (As := [.int (xs (n + 1)), .int (xs (n + 2)), .int (xs (n + 3)), .int (xs (n + 4)), .int (xs (n + 5))]) (rest := []) hR hC MM_val rfl (by decide) m2 g1 rfl rfl (Nat.le_of_ble_eq_true rfl) ⟨Nat.le_trans hk lw_k0, Nat.le_trans hks lw_s0⟩ ?_
  simp only [Option.toList, List.cons_append, List.nil_append]
  refine wk_s hR hC MM_val rfl rfl (KW_ok ?_)
  refine wk_s hR hC MM_val rfl rfl (KW_ok ?_)
  exact next hd ⟨I2, X2 I.2⟩
set_option maxRecDepth 100000 in
set_option maxHeartbeats 4000000 in
/-- end -/
theorem lo_1 {p : Program} {l : Launch} {e : Env} {s : State} {m : MethodId} {below : List Frame} {meth : Method} {c : Code} {en ac : Nat → Nat} {D : va_G} {b0 : Nat} {n Ln k ks : Nat} {xs : Nat → Int32} {hp : List AE} (hC : ex_C p s m #[Value.ref b0] meth c s.heap.size en ac D MM 300) (hX : va_X b0 Ln xs s s.heap) (hbl : b0 < s.heap.size) (hen : en 200 = b0) (hn : n + 6 ≤ Ln) (hL : Ln ≤ 3072) (I : LIX hp) (hk : k ≤ 601024) (hks : ks ≤ 7293034) (next : ∀ hd, LIX hd → LK p l e s m below meth c en ac D b0 1250 [(4, .int (Int32.ofNat n)), (3, .ref 203), (2, .ref 180), (1, .ref 0), (0, .retAddr 200)] [] hd k ks) : LK p l e s m below meth c en ac D b0 285 [(4, .int (Int32.ofNat n)), (3, .ref 203), (2, .ref 180), (1, .ref 0), (0, .retAddr 200)] [] hp k ks := by
  have hR := lw_hR
  obtain ⟨r, hc, hd, fs, gs, m1, m2, I2, f1, g1, X2⟩ := op_end l s.heap.size en ac D I.1 (xs (n + 1))
  repeat (refine wk_s hR hC MM_val rfl rfl (KW_ok ?_); try dsimp only)
  refine lw_sl2 hC hX hbl hen rfl (lw_a1 n) (lw_b1 hn) hL ?_
  repeat (refine wk_s hR hC MM_val rfl rfl (KW_ok ?_); try dsimp only)
  refine wk_V (z := 0) (As := [.int (xs (n + 1))]) (rest := []) hR hC MM_val rfl (by decide) m1 f1 rfl rfl (Nat.le_of_ble_eq_true rfl) ⟨Nat.le_trans hk lw_k0, Nat.le_trans hks lw_s0⟩ ?_
  simp only [Option.toList, List.cons_append, List.nil_append]
  repeat (refine wk_s hR hC MM_val rfl rfl (KW_ok ?_); try dsimp only)
  refine lw_sl2 hC hX hbl hen rfl (lw_a1 n) (lw_b1 hn) hL ?_
  repeat (refine wk_s hR hC MM_val rfl rfl (KW_ok ?_); try dsimp only)
  refine wk_V (z := 180) (As := [.int (xs (n + 1))]) (rest := []) hR hC MM_val rfl (by decide) m2 g1 rfl rfl (Nat.le_of_ble_eq_true rfl) ⟨Nat.le_trans hk lw_k0, Nat.le_trans hks lw_s0⟩ ?_
  simp only [Option.toList, List.cons_append, List.nil_append]
  refine wk_s hR hC MM_val rfl rfl (KW_ok ?_)
  refine wk_s hR hC MM_val rfl rfl (KW_ok ?_)
  exact next hd ⟨I2, X2 I.2⟩
set_option maxRecDepth 100000 in
set_option maxHeartbeats 4000000 in
/-- duchy -/
theorem lo_2 {p : Program} {l : Launch} {e : Env} {s : State} {m : MethodId} {below : List Frame} {meth : Method} {c : Code} {en ac : Nat → Nat} {D : va_G} {b0 : Nat} {n Ln k ks : Nat} {xs : Nat → Int32} {hp : List AE} (hC : ex_C p s m #[Value.ref b0] meth c s.heap.size en ac D MM 300) (hX : va_X b0 Ln xs s s.heap) (hbl : b0 < s.heap.size) (hen : en 200 = b0) (hn : n + 6 ≤ Ln) (hL : Ln ≤ 3072) (I : LIX hp) (hk : k ≤ 601024) (hks : ks ≤ 7293034) (next : ∀ hd, LIX hd → LK p l e s m below meth c en ac D b0 1250 [(4, .int (Int32.ofNat n)), (3, .ref 203), (2, .ref 180), (1, .ref 0), (0, .retAddr 200)] [] hd k ks) : LK p l e s m below meth c en ac D b0 310 [(4, .int (Int32.ofNat n)), (3, .ref 203), (2, .ref 180), (1, .ref 0), (0, .retAddr 200)] [] hp k ks := by
  have hR := lw_hR
  obtain ⟨r, hc, hd, fs, gs, m1, m2, I2, f1, g1, X2⟩ := op_duchy l s.heap.size en ac D I.1 I.2 
  repeat (refine wk_s hR hC MM_val rfl rfl (KW_ok ?_); try dsimp only)
  refine wk_V (z := 0) (As := []) (rest := []) hR hC MM_val rfl (by decide) m1 f1 rfl rfl (Nat.le_of_ble_eq_true rfl) ⟨Nat.le_trans hk lw_k0, Nat.le_trans hks lw_s0⟩ ?_
  simp only [Option.toList, List.cons_append, List.nil_append]
  repeat (refine wk_s hR hC MM_val rfl rfl (KW_ok ?_); try dsimp only)
  refine wk_V (z := 180) (As := []) (rest := []) hR hC MM_val rfl (by decide) m2 g1 rfl rfl (Nat.le_of_ble_eq_true rfl) ⟨Nat.le_trans hk lw_k0, Nat.le_trans hks lw_s0⟩ ?_
  simp only [Option.toList, List.cons_append, List.nil_append]
  refine wk_s hR hC MM_val rfl rfl (KW_ok ?_)
  refine wk_s hR hC MM_val rfl rfl (KW_ok ?_)
  exact next hd ⟨I2, X2 I.2⟩
set_option maxRecDepth 100000 in
set_option maxHeartbeats 4000000 in
/-- fault -/
theorem lo_3 {p : Program} {l : Launch} {e : Env} {s : State} {m : MethodId} {below : List Frame} {meth : Method} {c : Code} {en ac : Nat → Nat} {D : va_G} {b0 : Nat} {n Ln k ks : Nat} {xs : Nat → Int32} {hp : List AE} (hC : ex_C p s m #[Value.ref b0] meth c s.heap.size en ac D MM 300) (hX : va_X b0 Ln xs s s.heap) (hbl : b0 < s.heap.size) (hen : en 200 = b0) (hn : n + 6 ≤ Ln) (hL : Ln ≤ 3072) (I : LIX hp) (hk : k ≤ 601024) (hks : ks ≤ 7293034) (next : ∀ hd, LIX hd → LK p l e s m below meth c en ac D b0 1250 [(4, .int (Int32.ofNat n)), (3, .ref 203), (2, .ref 180), (1, .ref 0), (0, .retAddr 200)] [] hd k ks) : LK p l e s m below meth c en ac D b0 323 [(4, .int (Int32.ofNat n)), (3, .ref 203), (2, .ref 180), (1, .ref 0), (0, .retAddr 200)] [] hp k ks := by
  have hR := lw_hR
  obtain ⟨r, hc, hd, fs, gs, m1, m2, I2, f1, g1, X2⟩ := op_fault l s.heap.size en ac D I.1 I.2 
  repeat (refine wk_s hR hC MM_val rfl rfl (KW_ok ?_); try dsimp only)
  refine wk_V (z := 0) (As := []) (rest := []) hR hC MM_val rfl (by decide) m1 f1 rfl rfl (Nat.le_of_ble_eq_true rfl) ⟨Nat.le_trans hk lw_k0, Nat.le_trans hks lw_s0⟩ ?_
  simp only [Option.toList, List.cons_append, List.nil_append]
  repeat (refine wk_s hR hC MM_val rfl rfl (KW_ok ?_); try dsimp only)
  refine wk_V (z := 180) (As := []) (rest := [.int r]) hR hC MM_val rfl (by decide) m2 g1 rfl rfl (Nat.le_of_ble_eq_true rfl) ⟨Nat.le_trans hk lw_k0, Nat.le_trans hks lw_s0⟩ ?_
  simp only [Option.toList, List.cons_append, List.nil_append]
  refine wk_s hR hC MM_val rfl rfl (KW_ok ?_)
  refine wk_cT rfl ?_
  exact next hd ⟨I2, X2 I.2⟩
set_option maxRecDepth 100000 in
set_option maxHeartbeats 4000000 in
/-- person -/
theorem lo_4 {p : Program} {l : Launch} {e : Env} {s : State} {m : MethodId} {below : List Frame} {meth : Method} {c : Code} {en ac : Nat → Nat} {D : va_G} {b0 : Nat} {n Ln k ks : Nat} {xs : Nat → Int32} {hp : List AE} (hC : ex_C p s m #[Value.ref b0] meth c s.heap.size en ac D MM 300) (hX : va_X b0 Ln xs s s.heap) (hbl : b0 < s.heap.size) (hen : en 200 = b0) (hn : n + 6 ≤ Ln) (hL : Ln ≤ 3072) (I : LIX hp) (hsT : l.stackTraces = false) (hT : pe_T s.heap.size s s.heap) (hk : k + 1 ≤ 601024) (hks : ks + 6 ≤ 7293034) (next : ∀ hd k2 ks2, LIX hd → k2 ≤ k + 1 → ks2 ≤ ks + 6 → LK p l e s m below meth c en ac D b0 1250 [(4, .int (Int32.ofNat n)), (3, .ref 203), (2, .ref 180), (1, .ref 0), (0, .retAddr 200)] [] hd k2 ks2) : LK p l e s m below meth c en ac D b0 336 [(4, .int (Int32.ofNat n)), (3, .ref 203), (2, .ref 180), (1, .ref 0), (0, .retAddr 200)] [] hp k ks := by
  have hR := lw_hR
  repeat (refine wk_s hR hC MM_val rfl rfl (KW_ok ?_); try dsimp only)
  refine lw_sl2 hC hX hbl hen rfl (lw_a1 n) (lw_b1 hn) hL ?_
  repeat (refine wk_s hR hC MM_val rfl rfl (KW_ok ?_); try dsimp only)
  refine lw_sl2 hC hX hbl hen rfl (lw_a2 n) (lw_b2 hn) hL ?_
  repeat (refine wk_s hR hC MM_val rfl rfl (KW_ok ?_); try dsimp only)
  have tail : ∀ (v : Int32) (h2 : List AE) (k2 ks2 : Nat), LIX h2 → k2 ≤ k + 1 → ks2 ≤ ks + 6 → LK p l e s m below meth c en ac D b0 353 [(4, .int (Int32.ofNat n)), (3, .ref 203), (2, .ref 180), (1, .ref 0), (0, .retAddr 200)] [.int v] h2 k2 ks2 := by
    intro v h2 k2 ks2 I2 hk2 hks2
    obtain ⟨r2, hd, gs, m2, I3, g2⟩ := op_mp l s.heap.size en ac D I2.1 (xs (n + 1)) (xs (n + 2))
    repeat (refine wk_s hR hC MM_val rfl rfl (KW_ok ?_); try dsimp only)
    refine lw_sl2 hC hX hbl hen rfl (lw_a1 n) (lw_b1 hn) hL ?_
    repeat (refine wk_s hR hC MM_val rfl rfl (KW_ok ?_); try dsimp only)
    refine lw_sl2 hC hX hbl hen rfl (lw_a2 n) (lw_b2 hn) hL ?_
    repeat (refine wk_s hR hC MM_val rfl rfl (KW_ok ?_); try dsimp only)
    refine wk_V (z := 180) (As := [.int (xs (n + 1)), .int (xs (n + 2))]) (rest := []) hR hC MM_val rfl (by decide) m2 g2 rfl rfl (Nat.le_of_ble_eq_true rfl) ⟨Nat.le_trans (Nat.le_trans hk2 hk) lw_k0, Nat.le_trans (Nat.le_trans hks2 hks) lw_s0⟩ ?_
    simp only [Option.toList, List.cons_append, List.nil_append]
    refine wk_s hR hC MM_val rfl rfl (KW_ok ?_)
    refine wk_s hR hC MM_val rfl rfl (KW_ok ?_)
    refine wk_L [(4, .int (Int32.ofNat n)), (3, .ref 203), (2, .ref 180), (1, .ref 0), (0, .retAddr 200)] (lw_mem2 _ _ _ _ _ _ _) ?_
    exact next hd _ _ ⟨I3.1, I3.2 I2.2⟩ hk2 hks2
  rcases pe_two l s.heap.size en ac D I.1 (xs (n + 1)) (xs (n + 2)) with ⟨r, hc, m1, I1⟩ | ⟨r, hc, m1, I1, hlen, hcs⟩
  · exact pe_call0 hC I.1 I1.1 _ _ (Nat.le_trans (Nat.le_succ k) hk) (Nat.le_trans (Nat.le_add_right ks 6) hks) m1 (tail _ _ _ _ (lix_set ⟨I1.1, I1.2 I.2⟩ _) (Nat.le_succ k) (Nat.le_add_right ks 6))
  · exact pe_call hsT hT hC I.1 _ _ hk hks hlen m1 hcs (tail _ _ _ _ (lix_push ⟨I1.1, I1.2 I.2⟩) (Nat.le_refl _) (Nat.le_refl _))
set_option maxRecDepth 100000 in
set_option maxHeartbeats 4000000 in
/-- skill -/
theorem lo_5 {p : Program} {l : Launch} {e : Env} {s : State} {m : MethodId} {below : List Frame} {meth : Method} {c : Code} {en ac : Nat → Nat} {D : va_G} {b0 : Nat} {n Ln k ks : Nat} {xs : Nat → Int32} {hp : List AE} (hC : ex_C p s m #[Value.ref b0] meth c s.heap.size en ac D MM 300) (hX : va_X b0 Ln xs s s.heap) (hbl : b0 < s.heap.size) (hen : en 200 = b0) (hn : n + 6 ≤ Ln) (hL : Ln ≤ 3072) (I : LIX hp) (hk : k ≤ 601024) (hks : ks ≤ 7293034) (next : ∀ hd, LIX hd → LK p l e s m below meth c en ac D b0 1250 [(4, .int (Int32.ofNat n)), (3, .ref 203), (2, .ref 180), (1, .ref 0), (0, .retAddr 200)] [] hd k ks) : LK p l e s m below meth c en ac D b0 376 [(4, .int (Int32.ofNat n)), (3, .ref 203), (2, .ref 180), (1, .ref 0), (0, .retAddr 200)] [] hp k ks := by
  have hR := lw_hR
  obtain ⟨r, r2, hc, hd, fs, gs, m1, m2, I2, f1, g1, X2⟩ := op_skill l s.heap.size en ac D I.1 (xs (n + 1)) (xs (n + 2))
  repeat (refine wk_s hR hC MM_val rfl rfl (KW_ok ?_); try dsimp only)
  refine lw_sl2 hC hX hbl hen rfl (lw_a1 n) (lw_b1 hn) hL ?_
  repeat (refine wk_s hR hC MM_val rfl rfl (KW_ok ?_); try dsimp only)
  refine lw_sl2 hC hX hbl hen rfl (lw_a2 n) (lw_b2 hn) hL ?_
  repeat (refine wk_s hR hC MM_val rfl rfl (KW_ok ?_); try dsimp only)
  refine wk_V (z := 0) (As := [.int (xs (n + 1)), .int (xs (n + 2))]) (rest := []) hR hC MM_val rfl (by decide) m1 f1 rfl rfl (Nat.le_of_ble_eq_true rfl) ⟨Nat.le_trans hk lw_k0, Nat.le_trans hks lw_s0⟩ ?_
  simp only [Option.toList, List.cons_append, List.nil_append]
  repeat (refine wk_s hR hC MM_val rfl rfl (KW_ok ?_); try dsimp only)
  refine lw_sl2 hC hX hbl hen rfl (lw_a1 n) (lw_b1 hn) hL ?_
  repeat (refine wk_s hR hC MM_val rfl rfl (KW_ok ?_); try dsimp only)
  refine lw_sl2 hC hX hbl hen rfl (lw_a2 n) (lw_b2 hn) hL ?_
  repeat (refine wk_s hR hC MM_val rfl rfl (KW_ok ?_); try dsimp only)
  refine wk_V (z := 180) (As := [.int (xs (n + 1)), .int (xs (n + 2))]) (rest := []) hR hC MM_val rfl (by decide) m2 g1 rfl rfl (Nat.le_of_ble_eq_true rfl) ⟨Nat.le_trans hk lw_k0, Nat.le_trans hks lw_s0⟩ ?_
  simp only [Option.toList, List.cons_append, List.nil_append]
  refine wk_s hR hC MM_val rfl rfl (KW_ok ?_)
  refine wk_s hR hC MM_val rfl rfl (KW_ok ?_)
  exact next hd ⟨I2, X2 I.2⟩
set_option maxRecDepth 100000 in
set_option maxHeartbeats 4000000 in
/-- deed -/
theorem lo_6 {p : Program} {l : Launch} {e : Env} {s : State} {m : MethodId} {below : List Frame} {meth : Method} {c : Code} {en ac : Nat → Nat} {D : va_G} {b0 : Nat} {n Ln k ks : Nat} {xs : Nat → Int32} {hp : List AE} (hC : ex_C p s m #[Value.ref b0] meth c s.heap.size en ac D MM 300) (hX : va_X b0 Ln xs s s.heap) (hbl : b0 < s.heap.size) (hen : en 200 = b0) (hn : n + 6 ≤ Ln) (hL : Ln ≤ 3072) (I : LIX hp) (hk : k ≤ 601024) (hks : ks ≤ 7293034) (next : ∀ hd, LIX hd → LK p l e s m below meth c en ac D b0 1250 [(4, .int (Int32.ofNat n)), (3, .ref 203), (2, .ref 180), (1, .ref 0), (0, .retAddr 200)] [] hd k ks) : LK p l e s m below meth c en ac D b0 413 [(4, .int (Int32.ofNat n)), (3, .ref 203), (2, .ref 180), (1, .ref 0), (0, .retAddr 200)] [] hp k ks := by
  have hR := lw_hR
  obtain ⟨r, r2, hc, hd, fs, gs, m1, m2, I2, f1, g1, X2⟩ := op_deed l s.heap.size en ac D I.1 (xs (n + 1)) (xs (n + 2))
  repeat (refine wk_s hR hC MM_val rfl rfl (KW_ok ?_); try dsimp only)
  refine lw_sl2 hC hX hbl hen rfl (lw_a1 n) (lw_b1 hn) hL ?_
  repeat (refine wk_s hR hC MM_val rfl rfl (KW_ok ?_); try dsimp only)
  refine lw_sl2 hC hX hbl hen rfl (lw_a2 n) (lw_b2 hn) hL ?_
  repeat (refine wk_s hR hC MM_val rfl rfl (KW_ok ?_); try dsimp only)
  refine wk_V (z := 0) (As := [.int (xs (n + 1)), .int (xs (n + 2))]) (rest := []) hR hC MM_val rfl (by decide) m1 f1 rfl rfl (Nat.le_of_ble_eq_true rfl) ⟨Nat.le_trans hk lw_k0, Nat.le_trans hks lw_s0⟩ ?_
  simp only [Option.toList, List.cons_append, List.nil_append]
  repeat (refine wk_s hR hC MM_val rfl rfl (KW_ok ?_); try dsimp only)
  refine lw_sl2 hC hX hbl hen rfl (lw_a1 n) (lw_b1 hn) hL ?_
  repeat (refine wk_s hR hC MM_val rfl rfl (KW_ok ?_); try dsimp only)
  refine lw_sl2 hC hX hbl hen rfl (lw_a2 n) (lw_b2 hn) hL ?_
  repeat (refine wk_s hR hC MM_val rfl rfl (KW_ok ?_); try dsimp only)
  refine wk_V (z := 180) (As := [.int (xs (n + 1)), .int (xs (n + 2))]) (rest := []) hR hC MM_val rfl (by decide) m2 g1 rfl rfl (Nat.le_of_ble_eq_true rfl) ⟨Nat.le_trans hk lw_k0, Nat.le_trans hks lw_s0⟩ ?_
  simp only [Option.toList, List.cons_append, List.nil_append]
  refine wk_s hR hC MM_val rfl rfl (KW_ok ?_)
  refine wk_s hR hC MM_val rfl rfl (KW_ok ?_)
  exact next hd ⟨I2, X2 I.2⟩
set_option maxRecDepth 100000 in
set_option maxHeartbeats 4000000 in
/-- now -/
theorem lo_7 {p : Program} {l : Launch} {e : Env} {s : State} {m : MethodId} {below : List Frame} {meth : Method} {c : Code} {en ac : Nat → Nat} {D : va_G} {b0 : Nat} {n Ln k ks : Nat} {xs : Nat → Int32} {hp : List AE} (hC : ex_C p s m #[Value.ref b0] meth c s.heap.size en ac D MM 300) (hX : va_X b0 Ln xs s s.heap) (hbl : b0 < s.heap.size) (hen : en 200 = b0) (hn : n + 6 ≤ Ln) (hL : Ln ≤ 3072) (I : LIX hp) (hk : k ≤ 601024) (hks : ks ≤ 7293034) (next : ∀ hd, LIX hd → LK p l e s m below meth c en ac D b0 1250 [(4, .int (Int32.ofNat n)), (3, .ref 203), (2, .ref 180), (1, .ref 0), (0, .retAddr 200)] [] hd k ks) : LK p l e s m below meth c en ac D b0 450 [(4, .int (Int32.ofNat n)), (3, .ref 203), (2, .ref 180), (1, .ref 0), (0, .retAddr 200)] [] hp k ks := by
  have hR := lw_hR
  obtain ⟨r, r2, hc, hd, fs, gs, m1, m2, I2, f1, g1, X2⟩ := op_now l s.heap.size en ac D I.1 (xs (n + 1))
  repeat (refine wk_s hR hC MM_val rfl rfl (KW_ok ?_); try dsimp only)
  refine lw_sl2 hC hX hbl hen rfl (lw_a1 n) (lw_b1 hn) hL ?_
  repeat (refine wk_s hR hC MM_val rfl rfl (KW_ok ?_); try dsimp only)
  refine wk_V (z := 0) (As := [.int (xs (n + 1))]) (rest := []) hR hC MM_val rfl (by decide) m1 f1 rfl rfl (Nat.le_of_ble_eq_true rfl) ⟨Nat.le_trans hk lw_k0, Nat.le_trans hks lw_s0⟩ ?_
  simp only [Option.toList, List.cons_append, List.nil_append]
  repeat (refine wk_s hR hC MM_val rfl rfl (KW_ok ?_); try dsimp only)
  refine lw_sl2 hC hX hbl hen rfl (lw_a1 n) (lw_b1 hn) hL ?_
  repeat (refine wk_s hR hC MM_val rfl rfl (KW_ok ?_); try dsimp only)
  refine wk_V (z := 180) (As := [.int (xs (n + 1))]) (rest := []) hR hC MM_val rfl (by decide) m2 g1 rfl rfl (Nat.le_of_ble_eq_true rfl) ⟨Nat.le_trans hk lw_k0, Nat.le_trans hks lw_s0⟩ ?_
  simp only [Option.toList, List.cons_append, List.nil_append]
  refine wk_s hR hC MM_val rfl rfl (KW_ok ?_)
  refine wk_s hR hC MM_val rfl rfl (KW_ok ?_)
  exact next hd ⟨I2, X2 I.2⟩
set_option maxRecDepth 100000 in
set_option maxHeartbeats 4000000 in
/-- does -/
theorem lo_8 {p : Program} {l : Launch} {e : Env} {s : State} {m : MethodId} {below : List Frame} {meth : Method} {c : Code} {en ac : Nat → Nat} {D : va_G} {b0 : Nat} {n Ln k ks : Nat} {xs : Nat → Int32} {hp : List AE} (hC : ex_C p s m #[Value.ref b0] meth c s.heap.size en ac D MM 300) (hX : va_X b0 Ln xs s s.heap) (hbl : b0 < s.heap.size) (hen : en 200 = b0) (hn : n + 6 ≤ Ln) (hL : Ln ≤ 3072) (I : LIX hp) (hk : k ≤ 601024) (hks : ks ≤ 7293034) (next : ∀ hd, LIX hd → LK p l e s m below meth c en ac D b0 1250 [(4, .int (Int32.ofNat n)), (3, .ref 203), (2, .ref 180), (1, .ref 0), (0, .retAddr 200)] [] hd k ks) : LK p l e s m below meth c en ac D b0 475 [(4, .int (Int32.ofNat n)), (3, .ref 203), (2, .ref 180), (1, .ref 0), (0, .retAddr 200)] [] hp k ks := by
  have hR := lw_hR
  obtain ⟨r, r2, hc, hd, fs, gs, m1, m2, I2, f1, g1, X2⟩ := op_does l s.heap.size en ac D I.1 (xs (n + 1)) (xs (n + 2)) (xs (n + 3))
  repeat (refine wk_s hR hC MM_val rfl rfl (KW_ok ?_); try dsimp only)
  refine lw_sl2 hC hX hbl hen rfl (lw_a1 n) (lw_b1 hn) hL ?_
  repeat (refine wk_s hR hC MM_val rfl rfl (KW_ok ?_); try dsimp only)
  refine lw_sl2 hC hX hbl hen rfl (lw_a2 n) (lw_b2 hn) hL ?_
  repeat (refine wk_s hR hC MM_val rfl rfl (KW_ok ?_); try dsimp only)
  refine lw_sl2 hC hX hbl hen rfl (lw_a3 n) (lw_b3 hn) hL ?_
  repeat (refine wk_s hR hC MM_val rfl rfl (KW_ok ?_); try dsimp only)
  refine wk_V (z := 0) (As := [.int (xs (n + 1)), .int (xs (n + 2)), .int (xs (n + 3))]) (rest := []) hR hC MM_val rfl (by decide) m1 f1 rfl rfl (Nat.le_of_ble_eq_true rfl) ⟨Nat.le_trans hk lw_k0, Nat.le_trans hks lw_s0⟩ ?_
  simp only [Option.toList, List.cons_append, List.nil_append]
  repeat (refine wk_s hR hC MM_val rfl rfl (KW_ok ?_); try dsimp only)
  refine lw_sl2 hC hX hbl hen rfl (lw_a1 n) (lw_b1 hn) hL ?_
  repeat (refine wk_s hR hC MM_val rfl rfl (KW_ok ?_); try dsimp only)
  refine lw_sl2 hC hX hbl hen rfl (lw_a2 n) (lw_b2 hn) hL ?_
  repeat (refine wk_s hR hC MM_val rfl rfl (KW_ok ?_); try dsimp only)
  refine lw_sl2 hC hX hbl hen rfl (lw_a3 n) (lw_b3 hn) hL ?_
  repeat (refine wk_s hR hC MM_val rfl rfl (KW_ok ?_); try dsimp only)
  refine wk_V (z := 180) (As := [.int (xs (n + 1)), .int (xs (n + 2)), .int (xs (n + 3))]) (rest := []) hR hC MM_val rfl (by decide) m2 g1 rfl rfl (Nat.le_of_ble_eq_true rfl) ⟨Nat.le_trans hk lw_k0, Nat.le_trans hks lw_s0⟩ ?_
  simp only [Option.toList, List.cons_append, List.nil_append]
  refine wk_s hR hC MM_val rfl rfl (KW_ok ?_)
  refine wk_s hR hC MM_val rfl rfl (KW_ok ?_)
  exact next hd ⟨I2, X2 I.2⟩
set_option maxRecDepth 100000 in
set_option maxHeartbeats 4000000 in
/-- wed -/
theorem lo_9 {p : Program} {l : Launch} {e : Env} {s : State} {m : MethodId} {below : List Frame} {meth : Method} {c : Code} {en ac : Nat → Nat} {D : va_G} {b0 : Nat} {n Ln k ks : Nat} {xs : Nat → Int32} {hp : List AE} (hC : ex_C p s m #[Value.ref b0] meth c s.heap.size en ac D MM 300) (hX : va_X b0 Ln xs s s.heap) (hbl : b0 < s.heap.size) (hen : en 200 = b0) (hn : n + 6 ≤ Ln) (hL : Ln ≤ 3072) (I : LIX hp) (hk : k ≤ 601024) (hks : ks ≤ 7293034) (next : ∀ hd, LIX hd → LK p l e s m below meth c en ac D b0 1250 [(4, .int (Int32.ofNat n)), (3, .ref 203), (2, .ref 180), (1, .ref 0), (0, .retAddr 200)] [] hd k ks) : LK p l e s m below meth c en ac D b0 524 [(4, .int (Int32.ofNat n)), (3, .ref 203), (2, .ref 180), (1, .ref 0), (0, .retAddr 200)] [] hp k ks := by
  have hR := lw_hR
  obtain ⟨r, r2, hc, hd, fs, gs, m1, m2, I2, f1, g1, X2⟩ := op_wed l s.heap.size en ac D I.1 (xs (n + 1)) (xs (n + 2))
  repeat (refine wk_s hR hC MM_val rfl rfl (KW_ok ?_); try dsimp only)
  refine lw_sl2 hC hX hbl hen rfl (lw_a1 n) (lw_b1 hn) hL ?_
  repeat (refine wk_s hR hC MM_val rfl rfl (KW_ok ?_); try dsimp only)
  refine lw_sl2 hC hX hbl hen rfl (lw_a2 n) (lw_b2 hn) hL ?_
  repeat (refine wk_s hR hC MM_val rfl rfl (KW_ok ?_); try dsimp only)
  refine wk_V (z := 0) (As := [.int (xs (n + 1)), .int (xs (n + 2))]) (rest := []) hR hC MM_val rfl (by decide) m1 f1 rfl rfl (Nat.le_of_ble_eq_true rfl) ⟨Nat.le_trans hk lw_k0, Nat.le_trans hks lw_s0⟩ ?_
  simp only [Option.toList, List.cons_append, List.nil_append]
  repeat (refine wk_s hR hC MM_val rfl rfl (KW_ok ?_); try dsimp only)
  refine lw_sl2 hC hX hbl hen rfl (lw_a1 n) (lw_b1 hn) hL ?_
  repeat (refine wk_s hR hC MM_val rfl rfl (KW_ok ?_); try dsimp only)
  refine lw_sl2 hC hX hbl hen rfl (lw_a2 n) (lw_b2 hn) hL ?_
  repeat (refine wk_s hR hC MM_val rfl rfl (KW_ok ?_); try dsimp only)
  refine wk_V (z := 180) (As := [.int (xs (n + 1)), .int (xs (n + 2))]) (rest := []) hR hC MM_val rfl (by decide) m2 g1 rfl rfl (Nat.le_of_ble_eq_true rfl) ⟨Nat.le_trans hk lw_k0, Nat.le_trans hks lw_s0⟩ ?_
  simp only [Option.toList, List.cons_append, List.nil_append]
  refine wk_s hR hC MM_val rfl rfl (KW_ok ?_)
  refine wk_s hR hC MM_val rfl rfl (KW_ok ?_)
  exact next hd ⟨I2, X2 I.2⟩
set_option maxRecDepth 100000 in
set_option maxHeartbeats 4000000 in
/-- part -/
theorem lo_10 {p : Program} {l : Launch} {e : Env} {s : State} {m : MethodId} {below : List Frame} {meth : Method} {c : Code} {en ac : Nat → Nat} {D : va_G} {b0 : Nat} {n Ln k ks : Nat} {xs : Nat → Int32} {hp : List AE} (hC : ex_C p s m #[Value.ref b0] meth c s.heap.size en ac D MM 300) (hX : va_X b0 Ln xs s s.heap) (hbl : b0 < s.heap.size) (hen : en 200 = b0) (hn : n + 6 ≤ Ln) (hL : Ln ≤ 3072) (I : LIX hp) (hk : k ≤ 601024) (hks : ks ≤ 7293034) (next : ∀ hd, LIX hd → LK p l e s m below meth c en ac D b0 1250 [(4, .int (Int32.ofNat n)), (3, .ref 203), (2, .ref 180), (1, .ref 0), (0, .retAddr 200)] [] hd k ks) : LK p l e s m below meth c en ac D b0 561 [(4, .int (Int32.ofNat n)), (3, .ref 203), (2, .ref 180), (1, .ref 0), (0, .retAddr 200)] [] hp k ks := by
  have hR := lw_hR
  obtain ⟨r, r2, hc, hd, fs, gs, m1, m2, I2, f1, g1, X2⟩ := op_part l s.heap.size en ac D I.1 (xs (n + 1))
  repeat (refine wk_s hR hC MM_val rfl rfl (KW_ok ?_); try dsimp only)
  refine lw_sl2 hC hX hbl hen rfl (lw_a1 n) (lw_b1 hn) hL ?_
  repeat (refine wk_s hR hC MM_val rfl rfl (KW_ok ?_); try dsimp only)
  refine wk_V (z := 0) (As := [.int (xs (n + 1))]) (rest := []) hR hC MM_val rfl (by decide) m1 f1 rfl rfl (Nat.le_of_ble_eq_true rfl) ⟨Nat.le_trans hk lw_k0, Nat.le_trans hks lw_s0⟩ ?_
  simp only [Option.toList, List.cons_append, List.nil_append]
  repeat (refine wk_s hR hC MM_val rfl rfl (KW_ok ?_); try dsimp only)
  refine lw_sl2 hC hX hbl hen rfl (lw_a1 n) (lw_b1 hn) hL ?_
  repeat (refine wk_s hR hC MM_val rfl rfl (KW_ok ?_); try dsimp only)
  refine wk_V (z := 180) (As := [.int (xs (n + 1))]) (rest := []) hR hC MM_val rfl (by decide) m2 g1 rfl rfl (Nat.le_of_ble_eq_true rfl) ⟨Nat.le_trans hk lw_k0, Nat.le_trans hks lw_s0⟩ ?_
  simp only [Option.toList, List.cons_append, List.nil_append]
  refine wk_s hR hC MM_val rfl rfl (KW_ok ?_)
  refine wk_s hR hC MM_val rfl rfl (KW_ok ?_)
  exact next hd ⟨I2, X2 I.2⟩
set_option maxRecDepth 100000 in
set_option maxHeartbeats 4000000 in
/-- glove -/
theorem lo_11 {p : Program} {l : Launch} {e : Env} {s : State} {m : MethodId} {below : List Frame} {meth : Method} {c : Code} {en ac : Nat → Nat} {D : va_G} {b0 : Nat} {n Ln k ks : Nat} {xs : Nat → Int32} {hp : List AE} (hC : ex_C p s m #[Value.ref b0] meth c s.heap.size en ac D MM 300) (hX : va_X b0 Ln xs s s.heap) (hbl : b0 < s.heap.size) (hen : en 200 = b0) (hn : n + 6 ≤ Ln) (hL : Ln ≤ 3072) (I : LIX hp) (hk : k ≤ 601024) (hks : ks ≤ 7293034) (next : ∀ hd, LIX hd → LK p l e s m below meth c en ac D b0 1250 [(4, .int (Int32.ofNat n)), (3, .ref 203), (2, .ref 180), (1, .ref 0), (0, .retAddr 200)] [] hd k ks) : LK p l e s m below meth c en ac D b0 586 [(4, .int (Int32.ofNat n)), (3, .ref 203), (2, .ref 180), (1, .ref 0), (0, .retAddr 200)] [] hp k ks := by
  have hR := lw_hR
  obtain ⟨r, r2, hc, hd, fs, gs, m1, m2, I2, f1, g1, X2⟩ := op_glove l s.heap.size en ac D I.1 (xs (n + 1))
  repeat (refine wk_s hR hC MM_val rfl rfl (KW_ok ?_); try dsimp only)
  refine lw_sl2 hC hX hbl hen rfl (lw_a1 n) (lw_b1 hn) hL ?_
  repeat (refine wk_s hR hC MM_val rfl rfl (KW_ok ?_); try dsimp only)
  refine wk_V (z := 0) (As := [.int (xs (n + 1))]) (rest := []) hR hC MM_val rfl (by decide) m1 f1 rfl rfl (Nat.le_of_ble_eq_true rfl) ⟨Nat.le_trans hk lw_k0, Nat.le_trans hks lw_s0⟩ ?_
  simp only [Option.toList, List.cons_append, List.nil_append]
  repeat (refine wk_s hR hC MM_val rfl rfl (KW_ok ?_); try dsimp only)
  refine lw_sl2 hC hX hbl hen rfl (lw_a1 n) (lw_b1 hn) hL ?_
  repeat (refine wk_s hR hC MM_val rfl rfl (KW_ok ?_); try dsimp only)
  refine wk_V (z := 180) (As := [.int (xs (n + 1))]) (rest := []) hR hC MM_val rfl (by decide) m2 g1 rfl rfl (Nat.le_of_ble_eq_true rfl) ⟨Nat.le_trans hk lw_k0, Nat.le_trans hks lw_s0⟩ ?_
  simp only [Option.toList, List.cons_append, List.nil_append]
  refine wk_s hR hC MM_val rfl rfl (KW_ok ?_)
  refine wk_s hR hC MM_val rfl rfl (KW_ok ?_)
  exact next hd ⟨I2, X2 I.2⟩
set_option maxRecDepth 100000 in
set_option maxHeartbeats 4000000 in
/-- bare -/
theorem lo_12 {p : Program} {l : Launch} {e : Env} {s : State} {m : MethodId} {below : List Frame} {meth : Method} {c : Code} {en ac : Nat → Nat} {D : va_G} {b0 : Nat} {n Ln k ks : Nat} {xs : Nat → Int32} {hp : List AE} (hC : ex_C p s m #[Value.ref b0] meth c s.heap.size en ac D MM 300) (hX : va_X b0 Ln xs s s.heap) (hbl : b0 < s.heap.size) (hen : en 200 = b0) (hn : n + 6 ≤ Ln) (hL : Ln ≤ 3072) (I : LIX hp) (hk : k ≤ 601024) (hks : ks ≤ 7293034) (next : ∀ hd, LIX hd → LK p l e s m below meth c en ac D b0 1250 [(4, .int (Int32.ofNat n)), (3, .ref 203), (2, .ref 180), (1, .ref 0), (0, .retAddr 200)] [] hd k ks) : LK p l e s m below meth c en ac D b0 611 [(4, .int (Int32.ofNat n)), (3, .ref 203), (2, .ref 180), (1, .ref 0), (0, .retAddr 200)] [] hp k ks := by
  have hR := lw_hR
  obtain ⟨r, r2, hc, hd, fs, gs, m1, m2, I2, f1, g1, X2⟩ := op_bare l s.heap.size en ac D I.1 (xs (n + 1))
  repeat (refine wk_s hR hC MM_val rfl rfl (KW_ok ?_); try dsimp only)
  refine lw_sl2 hC hX hbl hen rfl (lw_a1 n) (lw_b1 hn) hL ?_
  repeat (refine wk_s hR hC MM_val rfl rfl (KW_ok ?_); try dsimp only)
  refine wk_V (z := 0) (As := [.int (xs (n + 1))]) (rest := []) hR hC MM_val rfl (by decide) m1 f1 rfl rfl (Nat.le_of_ble_eq_true rfl) ⟨Nat.le_trans hk lw_k0, Nat.le_trans hks lw_s0⟩ ?_
  simp only [Option.toList, List.cons_append, List.nil_append]
  repeat (refine wk_s hR hC MM_val rfl rfl (KW_ok ?_); try dsimp only)
  refine lw_sl2 hC hX hbl hen rfl (lw_a1 n) (lw_b1 hn) hL ?_
  repeat (refine wk_s hR hC MM_val rfl rfl (KW_ok ?_); try dsimp only)
  refine wk_V (z := 180) (As := [.int (xs (n + 1))]) (rest := []) hR hC MM_val rfl (by decide) m2 g1 rfl rfl (Nat.le_of_ble_eq_true rfl) ⟨Nat.le_trans hk lw_k0, Nat.le_trans hks lw_s0⟩ ?_
  simp only [Option.toList, List.cons_append, List.nil_append]
  refine wk_s hR hC MM_val rfl rfl (KW_ok ?_)
  refine wk_s hR hC MM_val rfl rfl (KW_ok ?_)
  exact next hd ⟨I2, X2 I.2⟩
set_option maxRecDepth 100000 in
set_option maxHeartbeats 4000000 in
/-- days -/
theorem lo_13 {p : Program} {l : Launch} {e : Env} {s : State} {m : MethodId} {below : List Frame} {meth : Method} {c : Code} {en ac : Nat → Nat} {D : va_G} {b0 : Nat} {n Ln k ks : Nat} {xs : Nat → Int32} {hp : List AE} (hC : ex_C p s m #[Value.ref b0] meth c s.heap.size en ac D MM 300) (hX : va_X b0 Ln xs s s.heap) (hbl : b0 < s.heap.size) (hen : en 200 = b0) (hn : n + 6 ≤ Ln) (hL : Ln ≤ 3072) (I : LIX hp) (hk : k ≤ 601024) (hks : ks ≤ 7293034) (next : ∀ hd, LIX hd → LK p l e s m below meth c en ac D b0 1250 [(4, .int (Int32.ofNat n)), (3, .ref 203), (2, .ref 180), (1, .ref 0), (0, .retAddr 200)] [] hd k ks) : LK p l e s m below meth c en ac D b0 636 [(4, .int (Int32.ofNat n)), (3, .ref 203), (2, .ref 180), (1, .ref 0), (0, .retAddr 200)] [] hp k ks := by
  have hR := lw_hR
  obtain ⟨r, r2, hc, hd, fs, gs, m1, m2, I2, f1, g1, X2⟩ := op_days l s.heap.size en ac D I.1 (xs (n + 1))
  repeat (refine wk_s hR hC MM_val rfl rfl (KW_ok ?_); try dsimp only)
  refine lw_sl2 hC hX hbl hen rfl (lw_a1 n) (lw_b1 hn) hL ?_
  repeat (refine wk_s hR hC MM_val rfl rfl (KW_ok ?_); try dsimp only)
  refine wk_V (z := 0) (As := [.int (xs (n + 1))]) (rest := []) hR hC MM_val rfl (by decide) m1 f1 rfl rfl (Nat.le_of_ble_eq_true rfl) ⟨Nat.le_trans hk lw_k0, Nat.le_trans hks lw_s0⟩ ?_
  simp only [Option.toList, List.cons_append, List.nil_append]
  repeat (refine wk_s hR hC MM_val rfl rfl (KW_ok ?_); try dsimp only)
  refine lw_sl2 hC hX hbl hen rfl (lw_a1 n) (lw_b1 hn) hL ?_
  repeat (refine wk_s hR hC MM_val rfl rfl (KW_ok ?_); try dsimp only)
  refine wk_V (z := 180) (As := [.int (xs (n + 1))]) (rest := []) hR hC MM_val rfl (by decide) m2 g1 rfl rfl (Nat.le_of_ble_eq_true rfl) ⟨Nat.le_trans hk lw_k0, Nat.le_trans hks lw_s0⟩ ?_
  simp only [Option.toList, List.cons_append, List.nil_append]
  refine wk_s hR hC MM_val rfl rfl (KW_ok ?_)
  refine wk_s hR hC MM_val rfl rfl (KW_ok ?_)
  exact next hd ⟨I2, X2 I.2⟩
set_option maxRecDepth 100000 in
set_option maxHeartbeats 4000000 in
/-- undo -/
theorem lo_14 {p : Program} {l : Launch} {e : Env} {s : State} {m : MethodId} {below : List Frame} {meth : Method} {c : Code} {en ac : Nat → Nat} {D : va_G} {b0 : Nat} {n Ln k ks : Nat} {xs : Nat → Int32} {hp : List AE} (hC : ex_C p s m #[Value.ref b0] meth c s.heap.size en ac D MM 300) (hX : va_X b0 Ln xs s s.heap) (hbl : b0 < s.heap.size) (hen : en 200 = b0) (hn : n + 6 ≤ Ln) (hL : Ln ≤ 3072) (I : LIX hp) (hk : k ≤ 601024) (hks : ks ≤ 7293034) (next : ∀ hd, LIX hd → LK p l e s m below meth c en ac D b0 1250 [(4, .int (Int32.ofNat n)), (3, .ref 203), (2, .ref 180), (1, .ref 0), (0, .retAddr 200)] [] hd k ks) : LK p l e s m below meth c en ac D b0 661 [(4, .int (Int32.ofNat n)), (3, .ref 203), (2, .ref 180), (1, .ref 0), (0, .retAddr 200)] [] hp k ks := by
  have hR := lw_hR
  obtain ⟨r, r2, hc, hd, fs, gs, m1, m2, I2, f1, g1, X2⟩ := op_undo l s.heap.size en ac D I.1 
  repeat (refine wk_s hR hC MM_val rfl rfl (KW_ok ?_); try dsimp only)
  refine wk_V (z := 0) (As := []) (rest := []) hR hC MM_val rfl (by decide) m1 f1 rfl rfl (Nat.le_of_ble_eq_true rfl) ⟨Nat.le_trans hk lw_k0, Nat.le_trans hks lw_s0⟩ ?_
  simp only [Option.toList, List.cons_append, List.nil_append]
  repeat (refine wk_s hR hC MM_val rfl rfl (KW_ok ?_); try dsimp only)
  refine wk_V (z := 180) (As := []) (rest := []) hR hC MM_val rfl (by decide) m2 g1 rfl rfl (Nat.le_of_ble_eq_true rfl) ⟨Nat.le_trans hk lw_k0, Nat.le_trans hks lw_s0⟩ ?_
  simp only [Option.toList, List.cons_append, List.nil_append]
  refine wk_s hR hC MM_val rfl rfl (KW_ok ?_)
  refine wk_s hR hC MM_val rfl rfl (KW_ok ?_)
  exact next hd ⟨I2, X2 I.2⟩
set_option maxRecDepth 100000 in
set_option maxHeartbeats 4000000 in
/-- able -/
theorem lo_15 {p : Program} {l : Launch} {e : Env} {s : State} {m : MethodId} {below : List Frame} {meth : Method} {c : Code} {en ac : Nat → Nat} {D : va_G} {b0 : Nat} {n Ln k ks : Nat} {xs : Nat → Int32} {hp : List AE} (hC : ex_C p s m #[Value.ref b0] meth c s.heap.size en ac D MM 300) (hX : va_X b0 Ln xs s s.heap) (hbl : b0 < s.heap.size) (hen : en 200 = b0) (hn : n + 6 ≤ Ln) (hL : Ln ≤ 3072) (I : LIX hp) (hk : k ≤ 601024) (hks : ks ≤ 7293034) (next : ∀ hd, LIX hd → LK p l e s m below meth c en ac D b0 1250 [(4, .int (Int32.ofNat n)), (3, .ref 203), (2, .ref 180), (1, .ref 0), (0, .retAddr 200)] [] hd k ks) : LK p l e s m below meth c en ac D b0 674 [(4, .int (Int32.ofNat n)), (3, .ref 203), (2, .ref 180), (1, .ref 0), (0, .retAddr 200)] [] hp k ks := by
  have hR := lw_hR
  obtain ⟨r, r2, hc, hd, fs, gs, m1, m2, I2, f1, g1, X2⟩ := op_able l s.heap.size en ac D I.1 (xs (n + 1)) (xs (n + 2))
  repeat (refine wk_s hR hC MM_val rfl rfl (KW_ok ?_); try dsimp only)
  refine lw_sl2 hC hX hbl hen rfl (lw_a1 n) (lw_b1 hn) hL ?_
  repeat (refine wk_s hR hC MM_val rfl rfl (KW_ok ?_); try dsimp only)
  refine lw_sl2 hC hX hbl hen rfl (lw_a2 n) (lw_b2 hn) hL ?_
  repeat (refine wk_s hR hC MM_val rfl rfl (KW_ok ?_); try dsimp only)
  refine wk_V (z := 0) (As := [.int (xs (n + 1)), .int (xs (n + 2))]) (rest := []) hR hC MM_val rfl (by decide) m1 f1 rfl rfl (Nat.le_of_ble_eq_true rfl) ⟨Nat.le_trans hk lw_k0, Nat.le_trans hks lw_s0⟩ ?_
  simp only [Option.toList, List.cons_append, List.nil_append]
  repeat (refine wk_s hR hC MM_val rfl rfl (KW_ok ?_); try dsimp only)
  refine lw_sl2 hC hX hbl hen rfl (lw_a1 n) (lw_b1 hn) hL ?_
  repeat (refine wk_s hR hC MM_val rfl rfl (KW_ok ?_); try dsimp only)
  refine lw_sl2 hC hX hbl hen rfl (lw_a2 n) (lw_b2 hn) hL ?_
  repeat (refine wk_s hR hC MM_val rfl rfl (KW_ok ?_); try dsimp only)
  refine wk_V (z := 180) (As := [.int (xs (n + 1)), .int (xs (n + 2))]) (rest := []) hR hC MM_val rfl (by decide) m2 g1 rfl rfl (Nat.le_of_ble_eq_true rfl) ⟨Nat.le_trans hk lw_k0, Nat.le_trans hks lw_s0⟩ ?_
  simp only [Option.toList, List.cons_append, List.nil_append]
  refine wk_s hR hC MM_val rfl rfl (KW_ok ?_)
  refine wk_s hR hC MM_val rfl rfl (KW_ok ?_)
  exact next hd ⟨I2, X2 I.2⟩
set_option maxRecDepth 100000 in
set_option maxHeartbeats 4000000 in
/-- parted -/
theorem lo_16 {p : Program} {l : Launch} {e : Env} {s : State} {m : MethodId} {below : List Frame} {meth : Method} {c : Code} {en ac : Nat → Nat} {D : va_G} {b0 : Nat} {n Ln k ks : Nat} {xs : Nat → Int32} {hp : List AE} (hC : ex_C p s m #[Value.ref b0] meth c s.heap.size en ac D MM 300) (hX : va_X b0 Ln xs s s.heap) (hbl : b0 < s.heap.size) (hen : en 200 = b0) (hn : n + 6 ≤ Ln) (hL : Ln ≤ 3072) (I : LIX hp) (hk : k ≤ 601024) (hks : ks ≤ 7293034) (next : ∀ hd, LIX hd → LK p l e s m below meth c en ac D b0 1250 [(4, .int (Int32.ofNat n)), (3, .ref 203), (2, .ref 180), (1, .ref 0), (0, .retAddr 200)] [] hd k ks) : LK p l e s m below meth c en ac D b0 711 [(4, .int (Int32.ofNat n)), (3, .ref 203), (2, .ref 180), (1, .ref 0), (0, .retAddr 200)] [] hp k ks := by
  have hR := lw_hR
  obtain ⟨r, r2, hc, hd, fs, gs, m1, m2, I2, f1, g1, X2⟩ := op_parted l s.heap.size en ac D I.1 
  repeat (refine wk_s hR hC MM_val rfl rfl (KW_ok ?_); try dsimp only)
  refine wk_V (z := 0) (As := []) (rest := []) hR hC MM_val rfl (by decide) m1 f1 rfl rfl (Nat.le_of_ble_eq_true rfl) ⟨Nat.le_trans hk lw_k0, Nat.le_trans hks lw_s0⟩ ?_
  simp only [Option.toList, List.cons_append, List.nil_append]
  repeat (refine wk_s hR hC MM_val rfl rfl (KW_ok ?_); try dsimp only)
  refine wk_V (z := 180) (As := []) (rest := []) hR hC MM_val rfl (by decide) m2 g1 rfl rfl (Nat.le_of_ble_eq_true rfl) ⟨Nat.le_trans hk lw_k0, Nat.le_trans hks lw_s0⟩ ?_
  simp only [Option.toList, List.cons_append, List.nil_append]
  refine wk_s hR hC MM_val rfl rfl (KW_ok ?_)
  refine wk_s hR hC MM_val rfl rfl (KW_ok ?_)
  exact next hd ⟨I2, X2 I.2⟩
set_option maxRecDepth 100000 in
set_option maxHeartbeats 4000000 in
/-- partedAt -/
theorem lo_17 {p : Program} {l : Launch} {e : Env} {s : State} {m : MethodId} {below : List Frame} {meth : Method} {c : Code} {en ac : Nat → Nat} {D : va_G} {b0 : Nat} {n Ln k ks : Nat} {xs : Nat → Int32} {hp : List AE} (hC : ex_C p s m #[Value.ref b0] meth c s.heap.size en ac D MM 300) (hX : va_X b0 Ln xs s s.heap) (hbl : b0 < s.heap.size) (hen : en 200 = b0) (hn : n + 6 ≤ Ln) (hL : Ln ≤ 3072) (I : LIX hp) (hk : k ≤ 601024) (hks : ks ≤ 7293034) (next : ∀ hd, LIX hd → LK p l e s m below meth c en ac D b0 1250 [(4, .int (Int32.ofNat n)), (3, .ref 203), (2, .ref 180), (1, .ref 0), (0, .retAddr 200)] [] hd k ks) : LK p l e s m below meth c en ac D b0 724 [(4, .int (Int32.ofNat n)), (3, .ref 203), (2, .ref 180), (1, .ref 0), (0, .retAddr 200)] [] hp k ks := by
  have hR := lw_hR
  obtain ⟨r, r2, hc, hd, fs, gs, m1, m2, I2, f1, g1, X2⟩ := op_partedAt l s.heap.size en ac D I.1 (xs (n + 1)) (xs (n + 2))
  repeat (refine wk_s hR hC MM_val rfl rfl (KW_ok ?_); try dsimp only)
  refine lw_sl2 hC hX hbl hen rfl (lw_a1 n) (lw_b1 hn) hL ?_
  repeat (refine wk_s hR hC MM_val rfl rfl (KW_ok ?_); try dsimp only)
  refine lw_sl2 hC hX hbl hen rfl (lw_a2 n) (lw_b2 hn) hL ?_
  repeat (refine wk_s hR hC MM_val rfl rfl (KW_ok ?_); try dsimp only)
  refine wk_V (z := 0) (As := [.int (xs (n + 1)), .int (xs (n + 2))]) (rest := []) hR hC MM_val rfl (by decide) m1 f1 rfl rfl (Nat.le_of_ble_eq_true rfl) ⟨Nat.le_trans hk lw_k0, Nat.le_trans hks lw_s0⟩ ?_
  simp only [Option.toList, List.cons_append, List.nil_append]
  repeat (refine wk_s hR hC MM_val rfl rfl (KW_ok ?_); try dsimp only)
  refine lw_sl2 hC hX hbl hen rfl (lw_a1 n) (lw_b1 hn) hL ?_
  repeat (refine wk_s hR hC MM_val rfl rfl (KW_ok ?_); try dsimp only)
  refine lw_sl2 hC hX hbl hen rfl (lw_a2 n) (lw_b2 hn) hL ?_
  repeat (refine wk_s hR hC MM_val rfl rfl (KW_ok ?_); try dsimp only)
  refine wk_V (z := 180) (As := [.int (xs (n + 1)), .int (xs (n + 2))]) (rest := []) hR hC MM_val rfl (by decide) m2 g1 rfl rfl (Nat.le_of_ble_eq_true rfl) ⟨Nat.le_trans hk lw_k0, Nat.le_trans hks lw_s0⟩ ?_
  simp only [Option.toList, List.cons_append, List.nil_append]
  refine wk_s hR hC MM_val rfl rfl (KW_ok ?_)
  refine wk_s hR hC MM_val rfl rfl (KW_ok ?_)
  exact next hd ⟨I2, X2 I.2⟩
set_option maxRecDepth 100000 in
set_option maxHeartbeats 4000000 in
/-- fits -/
theorem lo_18 {p : Program} {l : Launch} {e : Env} {s : State} {m : MethodId} {below : List Frame} {meth : Method} {c : Code} {en ac : Nat → Nat} {D : va_G} {b0 : Nat} {n Ln k ks : Nat} {xs : Nat → Int32} {hp : List AE} (hC : ex_C p s m #[Value.ref b0] meth c s.heap.size en ac D MM 300) (hX : va_X b0 Ln xs s s.heap) (hbl : b0 < s.heap.size) (hen : en 200 = b0) (hn : n + 6 ≤ Ln) (hL : Ln ≤ 3072) (I : LIX hp) (hk : k ≤ 601024) (hks : ks ≤ 7293034) (next : ∀ hd, LIX hd → LK p l e s m below meth c en ac D b0 1250 [(4, .int (Int32.ofNat n)), (3, .ref 203), (2, .ref 180), (1, .ref 0), (0, .retAddr 200)] [] hd k ks) : LK p l e s m below meth c en ac D b0 761 [(4, .int (Int32.ofNat n)), (3, .ref 203), (2, .ref 180), (1, .ref 0), (0, .retAddr 200)] [] hp k ks := by
  have hR := lw_hR
  obtain ⟨r, r2, hc, hd, fs, gs, m1, m2, I2, f1, g1, X2⟩ := op_fits l s.heap.size en ac D I.1 
  repeat (refine wk_s hR hC MM_val rfl rfl (KW_ok ?_); try dsimp only)
  refine wk_V (z := 0) (As := []) (rest := []) hR hC MM_val rfl (by decide) m1 f1 rfl rfl (Nat.le_of_ble_eq_true rfl) ⟨Nat.le_trans hk lw_k0, Nat.le_trans hks lw_s0⟩ ?_
  simp only [Option.toList, List.cons_append, List.nil_append]
  repeat (refine wk_s hR hC MM_val rfl rfl (KW_ok ?_); try dsimp only)
  refine wk_V (z := 180) (As := []) (rest := []) hR hC MM_val rfl (by decide) m2 g1 rfl rfl (Nat.le_of_ble_eq_true rfl) ⟨Nat.le_trans hk lw_k0, Nat.le_trans hks lw_s0⟩ ?_
  simp only [Option.toList, List.cons_append, List.nil_append]
  refine wk_s hR hC MM_val rfl rfl (KW_ok ?_)
  refine wk_s hR hC MM_val rfl rfl (KW_ok ?_)
  exact next hd ⟨I2, X2 I.2⟩
set_option maxRecDepth 100000 in
set_option maxHeartbeats 4000000 in
/-- fitAt -/
theorem lo_19 {p : Program} {l : Launch} {e : Env} {s : State} {m : MethodId} {below : List Frame} {meth : Method} {c : Code} {en ac : Nat → Nat} {D : va_G} {b0 : Nat} {n Ln k ks : Nat} {xs : Nat → Int32} {hp : List AE} (hC : ex_C p s m #[Value.ref b0] meth c s.heap.size en ac D MM 300) (hX : va_X b0 Ln xs s s.heap) (hbl : b0 < s.heap.size) (hen : en 200 = b0) (hn : n + 6 ≤ Ln) (hL : Ln ≤ 3072) (I : LIX hp) (hk : k ≤ 601024) (hks : ks ≤ 7293034) (next : ∀ hd, LIX hd → LK p l e s m below meth c en ac D b0 1250 [(4, .int (Int32.ofNat n)), (3, .ref 203), (2, .ref 180), (1, .ref 0), (0, .retAddr 200)] [] hd k ks) : LK p l e s m below meth c en ac D b0 774 [(4, .int (Int32.ofNat n)), (3, .ref 203), (2, .ref 180), (1, .ref 0), (0, .retAddr 200)] [] hp k ks := by
  have hR := lw_hR
  obtain ⟨r, r2, hc, hd, fs, gs, m1, m2, I2, f1, g1, X2⟩ := op_fitAt l s.heap.size en ac D I.1 (xs (n + 1))
  repeat (refine wk_s hR hC MM_val rfl rfl (KW_ok ?_); try dsimp only)
  refine lw_sl2 hC hX hbl hen rfl (lw_a1 n) (lw_b1 hn) hL ?_
  repeat (refine wk_s hR hC MM_val rfl rfl (KW_ok ?_); try dsimp only)
  refine wk_V (z := 0) (As := [.int (xs (n + 1))]) (rest := []) hR hC MM_val rfl (by decide) m1 f1 rfl rfl (Nat.le_of_ble_eq_true rfl) ⟨Nat.le_trans hk lw_k0, Nat.le_trans hks lw_s0⟩ ?_
  simp only [Option.toList, List.cons_append, List.nil_append]
  repeat (refine wk_s hR hC MM_val rfl rfl (KW_ok ?_); try dsimp only)
  refine lw_sl2 hC hX hbl hen rfl (lw_a1 n) (lw_b1 hn) hL ?_
  repeat (refine wk_s hR hC MM_val rfl rfl (KW_ok ?_); try dsimp only)
  refine wk_V (z := 180) (As := [.int (xs (n + 1))]) (rest := []) hR hC MM_val rfl (by decide) m2 g1 rfl rfl (Nat.le_of_ble_eq_true rfl) ⟨Nat.le_trans hk lw_k0, Nat.le_trans hks lw_s0⟩ ?_
  simp only [Option.toList, List.cons_append, List.nil_append]
  refine wk_s hR hC MM_val rfl rfl (KW_ok ?_)
  refine wk_s hR hC MM_val rfl rfl (KW_ok ?_)
  exact next hd ⟨I2, X2 I.2⟩
set_option maxRecDepth 100000 in
set_option maxHeartbeats 4000000 in
/-- test -/
theorem lo_20 {p : Program} {l : Launch} {e : Env} {s : State} {m : MethodId} {below : List Frame} {meth : Method} {c : Code} {en ac : Nat → Nat} {D : va_G} {b0 : Nat} {n Ln k ks : Nat} {xs : Nat → Int32} {hp : List AE} (hC : ex_C p s m #[Value.ref b0] meth c s.heap.size en ac D MM 300) (hX : va_X b0 Ln xs s s.heap) (hbl : b0 < s.heap.size) (hen : en 200 = b0) (hn : n + 6 ≤ Ln) (hL : Ln ≤ 3072) (I : LIX hp) (hk : k ≤ 601024) (hks : ks ≤ 7293034) (next : ∀ hd, LIX hd → LK p l e s m below meth c en ac D b0 1250 [(4, .int (Int32.ofNat n)), (3, .ref 203), (2, .ref 180), (1, .ref 0), (0, .retAddr 200)] [] hd k ks) : LK p l e s m below meth c en ac D b0 799 [(4, .int (Int32.ofNat n)), (3, .ref 203), (2, .ref 180), (1, .ref 0), (0, .retAddr 200)] [] hp k ks := by
  have hR := lw_hR
  obtain ⟨r, r2, hc, hd, fs, gs, m1, m2, I2, f1, g1, X2⟩ := op_test l s.heap.size en ac D I.1 
  repeat (refine wk_s hR hC MM_val rfl rfl (KW_ok ?_); try dsimp only)
  refine wk_V (z := 0) (As := []) (rest := []) hR hC MM_val rfl (by decide) m1 f1 rfl rfl (Nat.le_of_ble_eq_true rfl) ⟨Nat.le_trans hk lw_k0, Nat.le_trans hks lw_s0⟩ ?_
  simp only [Option.toList, List.cons_append, List.nil_append]
  repeat (refine wk_s hR hC MM_val rfl rfl (KW_ok ?_); try dsimp only)
  refine wk_V (z := 180) (As := []) (rest := []) hR hC MM_val rfl (by decide) m2 g1 rfl rfl (Nat.le_of_ble_eq_true rfl) ⟨Nat.le_trans hk lw_k0, Nat.le_trans hks lw_s0⟩ ?_
  simp only [Option.toList, List.cons_append, List.nil_append]
  refine wk_s hR hC MM_val rfl rfl (KW_ok ?_)
  refine wk_s hR hC MM_val rfl rfl (KW_ok ?_)
  exact next hd ⟨I2, X2 I.2⟩
set_option maxRecDepth 100000 in
set_option maxHeartbeats 4000000 in
/-- hears -/
theorem lo_21 {p : Program} {l : Launch} {e : Env} {s : State} {m : MethodId} {below : List Frame} {meth : Method} {c : Code} {en ac : Nat → Nat} {D : va_G} {b0 : Nat} {n Ln k ks : Nat} {xs : Nat → Int32} {hp : List AE} (hC : ex_C p s m #[Value.ref b0] meth c s.heap.size en ac D MM 300) (hX : va_X b0 Ln xs s s.heap) (hbl : b0 < s.heap.size) (hen : en 200 = b0) (hn : n + 6 ≤ Ln) (hL : Ln ≤ 3072) (I : LIX hp) (hk : k ≤ 601024) (hks : ks ≤ 7293034) (next : ∀ hd, LIX hd → LK p l e s m below meth c en ac D b0 1250 [(4, .int (Int32.ofNat n)), (3, .ref 203), (2, .ref 180), (1, .ref 0), (0, .retAddr 200)] [] hd k ks) : LK p l e s m below meth c en ac D b0 812 [(4, .int (Int32.ofNat n)), (3, .ref 203), (2, .ref 180), (1, .ref 0), (0, .retAddr 200)] [] hp k ks := by
  have hR := lw_hR
  obtain ⟨r, r2, hc, hd, fs, gs, m1, m2, I2, f1, g1, X2⟩ := op_hears l s.heap.size en ac D I.1 (xs (n + 1)) (xs (n + 2))
  repeat (refine wk_s hR hC MM_val rfl rfl (KW_ok ?_); try dsimp only)
  refine lw_sl2 hC hX hbl hen rfl (lw_a1 n) (lw_b1 hn) hL ?_
  repeat (refine wk_s hR hC MM_val rfl rfl (KW_ok ?_); try dsimp only)
  refine lw_sl2 hC hX hbl hen rfl (lw_a2 n) (lw_b2 hn) hL ?_
  repeat (refine wk_s hR hC MM_val rfl rfl (KW_ok ?_); try dsimp only)
  refine wk_V (z := 0) (As := [.int (xs (n + 1)), .int (xs (n + 2))]) (rest := []) hR hC MM_val rfl (by decide) m1 f1 rfl rfl (Nat.le_of_ble_eq_true rfl) ⟨Nat.le_trans hk lw_k0, Nat.le_trans hks lw_s0⟩ ?_
  simp only [Option.toList, List.cons_append, List.nil_append]
  repeat (refine wk_s hR hC MM_val rfl rfl (KW_ok ?_); try dsimp only)
  refine lw_sl2 hC hX hbl hen rfl (lw_a1 n) (lw_b1 hn) hL ?_
  repeat (refine wk_s hR hC MM_val rfl rfl (KW_ok ?_); try dsimp only)
  refine lw_sl2 hC hX hbl hen rfl (lw_a2 n) (lw_b2 hn) hL ?_
  repeat (refine wk_s hR hC MM_val rfl rfl (KW_ok ?_); try dsimp only)
  refine wk_V (z := 180) (As := [.int (xs (n + 1)), .int (xs (n + 2))]) (rest := []) hR hC MM_val rfl (by decide) m2 g1 rfl rfl (Nat.le_of_ble_eq_true rfl) ⟨Nat.le_trans hk lw_k0, Nat.le_trans hks lw_s0⟩ ?_
  simp only [Option.toList, List.cons_append, List.nil_append]
  refine wk_s hR hC MM_val rfl rfl (KW_ok ?_)
  refine wk_s hR hC MM_val rfl rfl (KW_ok ?_)
  exact next hd ⟨I2, X2 I.2⟩
set_option maxRecDepth 100000 in
set_option maxHeartbeats 4000000 in
/-- guards -/
theorem lo_22 {p : Program} {l : Launch} {e : Env} {s : State} {m : MethodId} {below : List Frame} {meth : Method} {c : Code} {en ac : Nat → Nat} {D : va_G} {b0 : Nat} {n Ln k ks : Nat} {xs : Nat → Int32} {hp : List AE} (hC : ex_C p s m #[Value.ref b0] meth c s.heap.size en ac D MM 300) (hX : va_X b0 Ln xs s s.heap) (hbl : b0 < s.heap.size) (hen : en 200 = b0) (hn : n + 6 ≤ Ln) (hL : Ln ≤ 3072) (I : LIX hp) (hk : k ≤ 601024) (hks : ks ≤ 7293034) (next : ∀ hd, LIX hd → LK p l e s m below meth c en ac D b0 1250 [(4, .int (Int32.ofNat n)), (3, .ref 203), (2, .ref 180), (1, .ref 0), (0, .retAddr 200)] [] hd k ks) : LK p l e s m below meth c en ac D b0 849 [(4, .int (Int32.ofNat n)), (3, .ref 203), (2, .ref 180), (1, .ref 0), (0, .retAddr 200)] [] hp k ks := by
  have hR := lw_hR
  obtain ⟨r, r2, hc, hd, fs, gs, m1, m2, I2, f1, g1, X2⟩ := op_guards l s.heap.size en ac D I.1 
  repeat (refine wk_s hR hC MM_val rfl rfl (KW_ok ?_); try dsimp only)
  refine wk_V (z := 0) (As := []) (rest := []) hR hC MM_val rfl (by decide) m1 f1 rfl rfl (Nat.le_of_ble_eq_true rfl) ⟨Nat.le_trans hk lw_k0, Nat.le_trans hks lw_s0⟩ ?_
  simp only [Option.toList, List.cons_append, List.nil_append]
  repeat (refine wk_s hR hC MM_val rfl rfl (KW_ok ?_); try dsimp only)
  refine wk_V (z := 180) (As := []) (rest := []) hR hC MM_val rfl (by decide) m2 g1 rfl rfl (Nat.le_of_ble_eq_true rfl) ⟨Nat.le_trans hk lw_k0, Nat.le_trans hks lw_s0⟩ ?_
  simp only [Option.toList, List.cons_append, List.nil_append]
  refine wk_s hR hC MM_val rfl rfl (KW_ok ?_)
  refine wk_s hR hC MM_val rfl rfl (KW_ok ?_)
  exact next hd ⟨I2, X2 I.2⟩
set_option maxRecDepth 100000 in
set_option maxHeartbeats 4000000 in
/-- guarding -/
theorem lo_23 {p : Program} {l : Launch} {e : Env} {s : State} {m : MethodId} {below : List Frame} {meth : Method} {c : Code} {en ac : Nat → Nat} {D : va_G} {b0 : Nat} {n Ln k ks : Nat} {xs : Nat → Int32} {hp : List AE} (hC : ex_C p s m #[Value.ref b0] meth c s.heap.size en ac D MM 300) (hX : va_X b0 Ln xs s s.heap) (hbl : b0 < s.heap.size) (hen : en 200 = b0) (hn : n + 6 ≤ Ln) (hL : Ln ≤ 3072) (I : LIX hp) (hk : k ≤ 601024) (hks : ks ≤ 7293034) (next : ∀ hd, LIX hd → LK p l e s m below meth c en ac D b0 1250 [(4, .int (Int32.ofNat n)), (3, .ref 203), (2, .ref 180), (1, .ref 0), (0, .retAddr 200)] [] hd k ks) : LK p l e s m below meth c en ac D b0 862 [(4, .int (Int32.ofNat n)), (3, .ref 203), (2, .ref 180), (1, .ref 0), (0, .retAddr 200)] [] hp k ks := by
  have hR := lw_hR
  obtain ⟨r, r2, hc, hd, fs, gs, m1, m2, I2, f1, g1, X2⟩ := op_guarding l s.heap.size en ac D I.1 
  repeat (refine wk_s hR hC MM_val rfl rfl (KW_ok ?_); try dsimp only)
  refine wk_V (z := 0) (As := []) (rest := []) hR hC MM_val rfl (by decide) m1 f1 rfl rfl (Nat.le_of_ble_eq_true rfl) ⟨Nat.le_trans hk lw_k0, Nat.le_trans hks lw_s0⟩ ?_
  simp only [Option.toList, List.cons_append, List.nil_append]
  repeat (refine wk_s hR hC MM_val rfl rfl (KW_ok ?_); try dsimp only)
  refine wk_V (z := 180) (As := []) (rest := []) hR hC MM_val rfl (by decide) m2 g1 rfl rfl (Nat.le_of_ble_eq_true rfl) ⟨Nat.le_trans hk lw_k0, Nat.le_trans hks lw_s0⟩ ?_
  simp only [Option.toList, List.cons_append, List.nil_append]
  refine wk_s hR hC MM_val rfl rfl (KW_ok ?_)
  refine wk_s hR hC MM_val rfl rfl (KW_ok ?_)
  exact next hd ⟨I2, X2 I.2⟩
set_option maxRecDepth 100000 in
set_option maxHeartbeats 4000000 in
/-- best -/
theorem lo_24 {p : Program} {l : Launch} {e : Env} {s : State} {m : MethodId} {below : List Frame} {meth : Method} {c : Code} {en ac : Nat → Nat} {D : va_G} {b0 : Nat} {n Ln k ks : Nat} {xs : Nat → Int32} {hp : List AE} (hC : ex_C p s m #[Value.ref b0] meth c s.heap.size en ac D MM 300) (hX : va_X b0 Ln xs s s.heap) (hbl : b0 < s.heap.size) (hen : en 200 = b0) (hn : n + 6 ≤ Ln) (hL : Ln ≤ 3072) (I : LIX hp) (hk : k ≤ 601024) (hks : ks ≤ 7293034) (next : ∀ hd, LIX hd → LK p l e s m below meth c en ac D b0 1250 [(4, .int (Int32.ofNat n)), (3, .ref 203), (2, .ref 180), (1, .ref 0), (0, .retAddr 200)] [] hd k ks) : LK p l e s m below meth c en ac D b0 875 [(4, .int (Int32.ofNat n)), (3, .ref 203), (2, .ref 180), (1, .ref 0), (0, .retAddr 200)] [] hp k ks := by
  have hR := lw_hR
  obtain ⟨r, r2, hc, hd, fs, gs, m1, m2, I2, f1, g1, X2⟩ := op_best l s.heap.size en ac D I.1 
  repeat (refine wk_s hR hC MM_val rfl rfl (KW_ok ?_); try dsimp only)
  refine wk_V (z := 0) (As := []) (rest := []) hR hC MM_val rfl (by decide) m1 f1 rfl rfl (Nat.le_of_ble_eq_true rfl) ⟨Nat.le_trans hk lw_k0, Nat.le_trans hks lw_s0⟩ ?_
  simp only [Option.toList, List.cons_append, List.nil_append]
  repeat (refine wk_s hR hC MM_val rfl rfl (KW_ok ?_); try dsimp only)
  refine wk_V (z := 180) (As := []) (rest := []) hR hC MM_val rfl (by decide) m2 g1 rfl rfl (Nat.le_of_ble_eq_true rfl) ⟨Nat.le_trans hk lw_k0, Nat.le_trans hks lw_s0⟩ ?_
  simp only [Option.toList, List.cons_append, List.nil_append]
  refine wk_s hR hC MM_val rfl rfl (KW_ok ?_)
  refine wk_s hR hC MM_val rfl rfl (KW_ok ?_)
  exact next hd ⟨I2, X2 I.2⟩
set_option maxRecDepth 100000 in
set_option maxHeartbeats 4000000 in
/-- bestOf -/
theorem lo_25 {p : Program} {l : Launch} {e : Env} {s : State} {m : MethodId} {below : List Frame} {meth : Method} {c : Code} {en ac : Nat → Nat} {D : va_G} {b0 : Nat} {n Ln k ks : Nat} {xs : Nat → Int32} {hp : List AE} (hC : ex_C p s m #[Value.ref b0] meth c s.heap.size en ac D MM 300) (hX : va_X b0 Ln xs s s.heap) (hbl : b0 < s.heap.size) (hen : en 200 = b0) (hn : n + 6 ≤ Ln) (hL : Ln ≤ 3072) (I : LIX hp) (hk : k ≤ 601024) (hks : ks ≤ 7293034) (next : ∀ hd, LIX hd → LK p l e s m below meth c en ac D b0 1250 [(4, .int (Int32.ofNat n)), (3, .ref 203), (2, .ref 180), (1, .ref 0), (0, .retAddr 200)] [] hd k ks) : LK p l e s m below meth c en ac D b0 888 [(4, .int (Int32.ofNat n)), (3, .ref 203), (2, .ref 180), (1, .ref 0), (0, .retAddr 200)] [] hp k ks := by
  have hR := lw_hR
  obtain ⟨r, r2, hc, hd, fs, gs, m1, m2, I2, f1, g1, X2⟩ := op_bestOf l s.heap.size en ac D I.1 (xs (n + 1))
  repeat (refine wk_s hR hC MM_val rfl rfl (KW_ok ?_); try dsimp only)
  refine lw_sl2 hC hX hbl hen rfl (lw_a1 n) (lw_b1 hn) hL ?_
  repeat (refine wk_s hR hC MM_val rfl rfl (KW_ok ?_); try dsimp only)
  refine wk_V (z := 0) (As := [.int (xs (n + 1))]) (rest := []) hR hC MM_val rfl (by decide) m1 f1 rfl rfl (Nat.le_of_ble_eq_true rfl) ⟨Nat.le_trans hk lw_k0, Nat.le_trans hks lw_s0⟩ ?_
  simp only [Option.toList, List.cons_append, List.nil_append]
  repeat (refine wk_s hR hC MM_val rfl rfl (KW_ok ?_); try dsimp only)
  refine lw_sl2 hC hX hbl hen rfl (lw_a1 n) (lw_b1 hn) hL ?_
  repeat (refine wk_s hR hC MM_val rfl rfl (KW_ok ?_); try dsimp only)
  refine wk_V (z := 180) (As := [.int (xs (n + 1))]) (rest := []) hR hC MM_val rfl (by decide) m2 g1 rfl rfl (Nat.le_of_ble_eq_true rfl) ⟨Nat.le_trans hk lw_k0, Nat.le_trans hks lw_s0⟩ ?_
  simp only [Option.toList, List.cons_append, List.nil_append]
  refine wk_s hR hC MM_val rfl rfl (KW_ok ?_)
  refine wk_s hR hC MM_val rfl rfl (KW_ok ?_)
  exact next hd ⟨I2, X2 I.2⟩
set_option maxRecDepth 100000 in
set_option maxHeartbeats 4000000 in
/-- earns -/
theorem lo_26 {p : Program} {l : Launch} {e : Env} {s : State} {m : MethodId} {below : List Frame} {meth : Method} {c : Code} {en ac : Nat → Nat} {D : va_G} {b0 : Nat} {n Ln k ks : Nat} {xs : Nat → Int32} {hp : List AE} (hC : ex_C p s m #[Value.ref b0] meth c s.heap.size en ac D MM 300) (hX : va_X b0 Ln xs s s.heap) (hbl : b0 < s.heap.size) (hen : en 200 = b0) (hn : n + 6 ≤ Ln) (hL : Ln ≤ 3072) (I : LIX hp) (hk : k ≤ 601024) (hks : ks ≤ 7293034) (next : ∀ hd, LIX hd → LK p l e s m below meth c en ac D b0 1250 [(4, .int (Int32.ofNat n)), (3, .ref 203), (2, .ref 180), (1, .ref 0), (0, .retAddr 200)] [] hd k ks) : LK p l e s m below meth c en ac D b0 913 [(4, .int (Int32.ofNat n)), (3, .ref 203), (2, .ref 180), (1, .ref 0), (0, .retAddr 200)] [] hp k ks := by
  have hR := lw_hR
  obtain ⟨r, r2, hc, hd, fs, gs, m1, m2, I2, f1, g1, X2⟩ := op_earns l s.heap.size en ac D I.1 (xs (n + 1))
  repeat (refine wk_s hR hC MM_val rfl rfl (KW_ok ?_); try dsimp only)
  refine lw_sl2 hC hX hbl hen rfl (lw_a1 n) (lw_b1 hn) hL ?_
  repeat (refine wk_s hR hC MM_val rfl rfl (KW_ok ?_); try dsimp only)
  refine wk_V (z := 0) (As := [.int (xs (n + 1))]) (rest := []) hR hC MM_val rfl (by decide) m1 f1 rfl rfl (Nat.le_of_ble_eq_true rfl) ⟨Nat.le_trans hk lw_k0, Nat.le_trans hks lw_s0⟩ ?_
  simp only [Option.toList, List.cons_append, List.nil_append]
  repeat (refine wk_s hR hC MM_val rfl rfl (KW_ok ?_); try dsimp only)
  refine lw_sl2 hC hX hbl hen rfl (lw_a1 n) (lw_b1 hn) hL ?_
  repeat (refine wk_s hR hC MM_val rfl rfl (KW_ok ?_); try dsimp only)
  refine wk_V (z := 180) (As := [.int (xs (n + 1))]) (rest := []) hR hC MM_val rfl (by decide) m2 g1 rfl rfl (Nat.le_of_ble_eq_true rfl) ⟨Nat.le_trans hk lw_k0, Nat.le_trans hks lw_s0⟩ ?_
  simp only [Option.toList, List.cons_append, List.nil_append]
  refine wk_s hR hC MM_val rfl rfl (KW_ok ?_)
  refine wk_s hR hC MM_val rfl rfl (KW_ok ?_)
  exact next hd ⟨I2, X2 I.2⟩
set_option maxRecDepth 100000 in
set_option maxHeartbeats 4000000 in
/-- richest -/
theorem lo_27 {p : Program} {l : Launch} {e : Env} {s : State} {m : MethodId} {below : List Frame} {meth : Method} {c : Code} {en ac : Nat → Nat} {D : va_G} {b0 : Nat} {n Ln k ks : Nat} {xs : Nat → Int32} {hp : List AE} (hC : ex_C p s m #[Value.ref b0] meth c s.heap.size en ac D MM 300) (hX : va_X b0 Ln xs s s.heap) (hbl : b0 < s.heap.size) (hen : en 200 = b0) (hn : n + 6 ≤ Ln) (hL : Ln ≤ 3072) (I : LIX hp) (hk : k ≤ 601024) (hks : ks ≤ 7293034) (next : ∀ hd, LIX hd → LK p l e s m below meth c en ac D b0 1250 [(4, .int (Int32.ofNat n)), (3, .ref 203), (2, .ref 180), (1, .ref 0), (0, .retAddr 200)] [] hd k ks) : LK p l e s m below meth c en ac D b0 938 [(4, .int (Int32.ofNat n)), (3, .ref 203), (2, .ref 180), (1, .ref 0), (0, .retAddr 200)] [] hp k ks := by
  have hR := lw_hR
  obtain ⟨r, r2, hc, hd, fs, gs, m1, m2, I2, f1, g1, X2⟩ := op_richest l s.heap.size en ac D I.1 
  repeat (refine wk_s hR hC MM_val rfl rfl (KW_ok ?_); try dsimp only)
  refine wk_V (z := 0) (As := []) (rest := []) hR hC MM_val rfl (by decide) m1 f1 rfl rfl (Nat.le_of_ble_eq_true rfl) ⟨Nat.le_trans hk lw_k0, Nat.le_trans hks lw_s0⟩ ?_
  simp only [Option.toList, List.cons_append, List.nil_append]
  repeat (refine wk_s hR hC MM_val rfl rfl (KW_ok ?_); try dsimp only)
  refine wk_V (z := 180) (As := []) (rest := []) hR hC MM_val rfl (by decide) m2 g1 rfl rfl (Nat.le_of_ble_eq_true rfl) ⟨Nat.le_trans hk lw_k0, Nat.le_trans hks lw_s0⟩ ?_
  simp only [Option.toList, List.cons_append, List.nil_append]
  refine wk_s hR hC MM_val rfl rfl (KW_ok ?_)
  refine wk_s hR hC MM_val rfl rfl (KW_ok ?_)
  exact next hd ⟨I2, X2 I.2⟩
set_option maxRecDepth 100000 in
set_option maxHeartbeats 4000000 in
/-- slip -/
theorem lo_28 {p : Program} {l : Launch} {e : Env} {s : State} {m : MethodId} {below : List Frame} {meth : Method} {c : Code} {en ac : Nat → Nat} {D : va_G} {b0 : Nat} {n Ln k ks : Nat} {xs : Nat → Int32} {hp : List AE} (hC : ex_C p s m #[Value.ref b0] meth c s.heap.size en ac D MM 300) (hX : va_X b0 Ln xs s s.heap) (hbl : b0 < s.heap.size) (hen : en 200 = b0) (hn : n + 6 ≤ Ln) (hL : Ln ≤ 3072) (I : LIX hp) (hk : k ≤ 601024) (hks : ks ≤ 7293034) (next : ∀ hd, LIX hd → LK p l e s m below meth c en ac D b0 1250 [(4, .int (Int32.ofNat n)), (3, .ref 203), (2, .ref 180), (1, .ref 0), (0, .retAddr 200)] [] hd k ks) : LK p l e s m below meth c en ac D b0 951 [(4, .int (Int32.ofNat n)), (3, .ref 203), (2, .ref 180), (1, .ref 0), (0, .retAddr 200)] [] hp k ks := by
  have hR := lw_hR
  obtain ⟨r, r2, hc, hd, fs, gs, m1, m2, I2, f1, g1, X2⟩ := op_slip l s.heap.size en ac D I.1 (xs (n + 1))
  repeat (refine wk_s hR hC MM_val rfl rfl (KW_ok ?_); try dsimp only)
  refine lw_sl2 hC hX hbl hen rfl (lw_a1 n) (lw_b1 hn) hL ?_
  repeat (refine wk_s hR hC MM_val rfl rfl (KW_ok ?_); try dsimp only)
  refine wk_V (z := 0) (As := [.int (xs (n + 1))]) (rest := []) hR hC MM_val rfl (by decide) m1 f1 rfl rfl (Nat.le_of_ble_eq_true rfl) ⟨Nat.le_trans hk lw_k0, Nat.le_trans hks lw_s0⟩ ?_
  simp only [Option.toList, List.cons_append, List.nil_append]
  repeat (refine wk_s hR hC MM_val rfl rfl (KW_ok ?_); try dsimp only)
  refine lw_sl2 hC hX hbl hen rfl (lw_a1 n) (lw_b1 hn) hL ?_
  repeat (refine wk_s hR hC MM_val rfl rfl (KW_ok ?_); try dsimp only)
  refine wk_V (z := 180) (As := [.int (xs (n + 1))]) (rest := []) hR hC MM_val rfl (by decide) m2 g1 rfl rfl (Nat.le_of_ble_eq_true rfl) ⟨Nat.le_trans hk lw_k0, Nat.le_trans hks lw_s0⟩ ?_
  simp only [Option.toList, List.cons_append, List.nil_append]
  refine wk_s hR hC MM_val rfl rfl (KW_ok ?_)
  refine wk_s hR hC MM_val rfl rfl (KW_ok ?_)
  exact next hd ⟨I2, X2 I.2⟩
set_option maxRecDepth 100000 in
set_option maxHeartbeats 4000000 in
/-- byteAt -/
theorem lo_29 {p : Program} {l : Launch} {e : Env} {s : State} {m : MethodId} {below : List Frame} {meth : Method} {c : Code} {en ac : Nat → Nat} {D : va_G} {b0 : Nat} {n Ln k ks : Nat} {xs : Nat → Int32} {hp : List AE} (hC : ex_C p s m #[Value.ref b0] meth c s.heap.size en ac D MM 300) (hX : va_X b0 Ln xs s s.heap) (hbl : b0 < s.heap.size) (hen : en 200 = b0) (hn : n + 6 ≤ Ln) (hL : Ln ≤ 3072) (I : LIX hp) (hk : k ≤ 601024) (hks : ks ≤ 7293034) (next : ∀ hd, LIX hd → LK p l e s m below meth c en ac D b0 1250 [(4, .int (Int32.ofNat n)), (3, .ref 203), (2, .ref 180), (1, .ref 0), (0, .retAddr 200)] [] hd k ks) : LK p l e s m below meth c en ac D b0 976 [(4, .int (Int32.ofNat n)), (3, .ref 203), (2, .ref 180), (1, .ref 0), (0, .retAddr 200)] [] hp k ks := by
  have hR := lw_hR
  obtain ⟨r, r2, hc, hd, fs, gs, m1, m2, I2, f1, g1, X2⟩ := op_byteAt l s.heap.size en ac D I.1 (xs (n + 1))
  repeat (refine wk_s hR hC MM_val rfl rfl (KW_ok ?_); try dsimp only)
  refine lw_sl2 hC hX hbl hen rfl (lw_a1 n) (lw_b1 hn) hL ?_
  repeat (refine wk_s hR hC MM_val rfl rfl (KW_ok ?_); try dsimp only)
  refine wk_V (z := 0) (As := [.int (xs (n + 1))]) (rest := []) hR hC MM_val rfl (by decide) m1 f1 rfl rfl (Nat.le_of_ble_eq_true rfl) ⟨Nat.le_trans hk lw_k0, Nat.le_trans hks lw_s0⟩ ?_
  simp only [Option.toList, List.cons_append, List.nil_append]
  repeat (refine wk_s hR hC MM_val rfl rfl (KW_ok ?_); try dsimp only)
  refine lw_sl2 hC hX hbl hen rfl (lw_a1 n) (lw_b1 hn) hL ?_
  repeat (refine wk_s hR hC MM_val rfl rfl (KW_ok ?_); try dsimp only)
  refine wk_V (z := 180) (As := [.int (xs (n + 1))]) (rest := []) hR hC MM_val rfl (by decide) m2 g1 rfl rfl (Nat.le_of_ble_eq_true rfl) ⟨Nat.le_trans hk lw_k0, Nat.le_trans hks lw_s0⟩ ?_
  simp only [Option.toList, List.cons_append, List.nil_append]
  refine wk_s hR hC MM_val rfl rfl (KW_ok ?_)
  refine wk_s hR hC MM_val rfl rfl (KW_ok ?_)
  exact next hd ⟨I2, X2 I.2⟩
set_option maxRecDepth 100000 in
set_option maxHeartbeats 4000000 in
/-- drawn -/
theorem lo_30 {p : Program} {l : Launch} {e : Env} {s : State} {m : MethodId} {below : List Frame} {meth : Method} {c : Code} {en ac : Nat → Nat} {D : va_G} {b0 : Nat} {n Ln k ks : Nat} {xs : Nat → Int32} {hp : List AE} (hC : ex_C p s m #[Value.ref b0] meth c s.heap.size en ac D MM 300) (hX : va_X b0 Ln xs s s.heap) (hbl : b0 < s.heap.size) (hen : en 200 = b0) (hn : n + 6 ≤ Ln) (hL : Ln ≤ 3072) (I : LIX hp) (hk : k ≤ 601024) (hks : ks ≤ 7293034) (next : ∀ hd, LIX hd → LK p l e s m below meth c en ac D b0 1250 [(4, .int (Int32.ofNat n)), (3, .ref 203), (2, .ref 180), (1, .ref 0), (0, .retAddr 200)] [] hd k ks) : LK p l e s m below meth c en ac D b0 1001 [(4, .int (Int32.ofNat n)), (3, .ref 203), (2, .ref 180), (1, .ref 0), (0, .retAddr 200)] [] hp k ks := by
  have hR := lw_hR
  obtain ⟨r, r2, hc, hd, fs, gs, m1, m2, I2, f1, g1, X2⟩ := op_drawn l s.heap.size en ac D I.1 (xs (n + 1)) (xs (n + 2))
  repeat (refine wk_s hR hC MM_val rfl rfl (KW_ok ?_); try dsimp only)
  refine lw_sl2 hC hX hbl hen rfl (lw_a1 n) (lw_b1 hn) hL ?_
  repeat (refine wk_s hR hC MM_val rfl rfl (KW_ok ?_); try dsimp only)
  refine lw_sl2 hC hX hbl hen rfl (lw_a2 n) (lw_b2 hn) hL ?_
  repeat (refine wk_s hR hC MM_val rfl rfl (KW_ok ?_); try dsimp only)
  refine wk_V (z := 0) (As := [.int (xs (n + 1)), .int (xs (n + 2))]) (rest := []) hR hC MM_val rfl (by decide) m1 f1 rfl rfl (Nat.le_of_ble_eq_true rfl) ⟨Nat.le_trans hk lw_k0, Nat.le_trans hks lw_s0⟩ ?_
  simp only [Option.toList, List.cons_append, List.nil_append]
  repeat (refine wk_s hR hC MM_val rfl rfl (KW_ok ?_); try dsimp only)
  refine lw_sl2 hC hX hbl hen rfl (lw_a1 n) (lw_b1 hn) hL ?_
  repeat (refine wk_s hR hC MM_val rfl rfl (KW_ok ?_); try dsimp only)
  refine lw_sl2 hC hX hbl hen rfl (lw_a2 n) (lw_b2 hn) hL ?_
  repeat (refine wk_s hR hC MM_val rfl rfl (KW_ok ?_); try dsimp only)
  refine wk_V (z := 180) (As := [.int (xs (n + 1)), .int (xs (n + 2))]) (rest := []) hR hC MM_val rfl (by decide) m2 g1 rfl rfl (Nat.le_of_ble_eq_true rfl) ⟨Nat.le_trans hk lw_k0, Nat.le_trans hks lw_s0⟩ ?_
  simp only [Option.toList, List.cons_append, List.nil_append]
  refine wk_s hR hC MM_val rfl rfl (KW_ok ?_)
  refine wk_s hR hC MM_val rfl rfl (KW_ok ?_)
  exact next hd ⟨I2, X2 I.2⟩
set_option maxRecDepth 100000 in
set_option maxHeartbeats 4000000 in
/-- odds -/
theorem lo_31 {p : Program} {l : Launch} {e : Env} {s : State} {m : MethodId} {below : List Frame} {meth : Method} {c : Code} {en ac : Nat → Nat} {D : va_G} {b0 : Nat} {n Ln k ks : Nat} {xs : Nat → Int32} {hp : List AE} (hC : ex_C p s m #[Value.ref b0] meth c s.heap.size en ac D MM 300) (hX : va_X b0 Ln xs s s.heap) (hbl : b0 < s.heap.size) (hen : en 200 = b0) (hn : n + 6 ≤ Ln) (hL : Ln ≤ 3072) (I : LIX hp) (hk : k ≤ 601024) (hks : ks ≤ 7293034) (next : ∀ hd, LIX hd → LK p l e s m below meth c en ac D b0 1250 [(4, .int (Int32.ofNat n)), (3, .ref 203), (2, .ref 180), (1, .ref 0), (0, .retAddr 200)] [] hd k ks) : LK p l e s m below meth c en ac D b0 1038 [(4, .int (Int32.ofNat n)), (3, .ref 203), (2, .ref 180), (1, .ref 0), (0, .retAddr 200)] [] hp k ks := by
  have hR := lw_hR
  obtain ⟨r, r2, hc, hd, fs, gs, m1, m2, I2, f1, g1, X2⟩ := op_odds l s.heap.size en ac D I.1 (xs (n + 1)) (xs (n + 2)) (xs (n + 3))
  repeat (refine wk_s hR hC MM_val rfl rfl (KW_ok ?_); try dsimp only)
  refine lw_sl2 hC hX hbl hen rfl (lw_a1 n) (lw_b1 hn) hL ?_
  repeat (refine wk_s hR hC MM_val rfl rfl (KW_ok ?_); try dsimp only)
  refine lw_sl2 hC hX hbl hen rfl (lw_a2 n) (lw_b2 hn) hL ?_
  repeat (refine wk_s hR hC MM_val rfl rfl (KW_ok ?_); try dsimp only)
  refine lw_sl2 hC hX hbl hen rfl (lw_a3 n) (lw_b3 hn) hL ?_
  repeat (refine wk_s hR hC MM_val rfl rfl (KW_ok ?_); try dsimp only)
  refine wk_V (z := 0) (As := [.int (xs (n + 1)), .int (xs (n + 2)), .int (xs (n + 3))]) (rest := []) hR hC MM_val rfl (by decide) m1 f1 rfl rfl (Nat.le_of_ble_eq_true rfl) ⟨Nat.le_trans hk lw_k0, Nat.le_trans hks lw_s0⟩ ?_
  simp only [Option.toList, List.cons_append, List.nil_append]
  repeat (refine wk_s hR hC MM_val rfl rfl (KW_ok ?_); try dsimp only)
  refine lw_sl2 hC hX hbl hen rfl (lw_a1 n) (lw_b1 hn) hL ?_
  repeat (refine wk_s hR hC MM_val rfl rfl (KW_ok ?_); try dsimp only)
  refine lw_sl2 hC hX hbl hen rfl (lw_a2 n) (lw_b2 hn) hL ?_
  repeat (refine wk_s hR hC MM_val rfl rfl (KW_ok ?_); try dsimp only)
  refine lw_sl2 hC hX hbl hen rfl (lw_a3 n) (lw_b3 hn) hL ?_
  repeat (refine wk_s hR hC MM_val rfl rfl (KW_ok ?_); try dsimp only)
  refine wk_V (z := 180) (As := [.int (xs (n + 1)), .int (xs (n + 2)), .int (xs (n + 3))]) (rest := []) hR hC MM_val rfl (by decide) m2 g1 rfl rfl (Nat.le_of_ble_eq_true rfl) ⟨Nat.le_trans hk lw_k0, Nat.le_trans hks lw_s0⟩ ?_
  simp only [Option.toList, List.cons_append, List.nil_append]
  refine wk_s hR hC MM_val rfl rfl (KW_ok ?_)
  refine wk_s hR hC MM_val rfl rfl (KW_ok ?_)
  exact next hd ⟨I2, X2 I.2⟩
set_option maxRecDepth 100000 in
set_option maxHeartbeats 4000000 in
/-- book -/
theorem lo_32 {p : Program} {l : Launch} {e : Env} {s : State} {m : MethodId} {below : List Frame} {meth : Method} {c : Code} {en ac : Nat → Nat} {D : va_G} {b0 : Nat} {n Ln k ks : Nat} {xs : Nat → Int32} {hp : List AE} (hC : ex_C p s m #[Value.ref b0] meth c s.heap.size en ac D MM 300) (hX : va_X b0 Ln xs s s.heap) (hbl : b0 < s.heap.size) (hen : en 200 = b0) (hn : n + 6 ≤ Ln) (hL : Ln ≤ 3072) (I : LIX hp) (hk : k ≤ 601024) (hks : ks ≤ 7293034) (next : ∀ hd, LIX hd → LK p l e s m below meth c en ac D b0 1250 [(4, .int (Int32.ofNat n)), (3, .ref 203), (2, .ref 180), (1, .ref 0), (0, .retAddr 200)] [] hd k ks) : LK p l e s m below meth c en ac D b0 1087 [(4, .int (Int32.ofNat n)), (3, .ref 203), (2, .ref 180), (1, .ref 0), (0, .retAddr 200)] [] hp k ks := by
  have hR := lw_hR
  obtain ⟨r, r2, hc, hd, fs, gs, m1, m2, I2, f1, g1, X2⟩ := op_book l s.heap.size en ac D I.1 (xs (n + 1))
  repeat (refine wk_s hR hC MM_val rfl rfl (KW_ok ?_); try dsimp only)
  refine lw_sl2 hC hX hbl hen rfl (lw_a1 n) (lw_b1 hn) hL ?_
  repeat (refine wk_s hR hC MM_val rfl rfl (KW_ok ?_); try dsimp only)
  refine wk_V (z := 0) (As := [.int (xs (n + 1))]) (rest := []) hR hC MM_val rfl (by decide) m1 f1 rfl rfl (Nat.le_of_ble_eq_true rfl) ⟨Nat.le_trans hk lw_k0, Nat.le_trans hks lw_s0⟩ ?_
  simp only [Option.toList, List.cons_append, List.nil_append]
  repeat (refine wk_s hR hC MM_val rfl rfl (KW_ok ?_); try dsimp only)
  refine lw_sl2 hC hX hbl hen rfl (lw_a1 n) (lw_b1 hn) hL ?_
  repeat (refine wk_s hR hC MM_val rfl rfl (KW_ok ?_); try dsimp only)
  refine wk_V (z := 180) (As := [.int (xs (n + 1))]) (rest := []) hR hC MM_val rfl (by decide) m2 g1 rfl rfl (Nat.le_of_ble_eq_true rfl) ⟨Nat.le_trans hk lw_k0, Nat.le_trans hks lw_s0⟩ ?_
  simp only [Option.toList, List.cons_append, List.nil_append]
  refine wk_s hR hC MM_val rfl rfl (KW_ok ?_)
  refine wk_s hR hC MM_val rfl rfl (KW_ok ?_)
  exact next hd ⟨I2, X2 I.2⟩
set_option maxRecDepth 100000 in
set_option maxHeartbeats 4000000 in
/-- told -/
theorem lo_33 {p : Program} {l : Launch} {e : Env} {s : State} {m : MethodId} {below : List Frame} {meth : Method} {c : Code} {en ac : Nat → Nat} {D : va_G} {b0 : Nat} {n Ln k ks : Nat} {xs : Nat → Int32} {hp : List AE} (hC : ex_C p s m #[Value.ref b0] meth c s.heap.size en ac D MM 300) (hX : va_X b0 Ln xs s s.heap) (hbl : b0 < s.heap.size) (hen : en 200 = b0) (hn : n + 6 ≤ Ln) (hL : Ln ≤ 3072) (I : LIX hp) (hk : k ≤ 601024) (hks : ks ≤ 7293034) (next : ∀ hd, LIX hd → LK p l e s m below meth c en ac D b0 1250 [(4, .int (Int32.ofNat n)), (3, .ref 203), (2, .ref 180), (1, .ref 0), (0, .retAddr 200)] [] hd k ks) : LK p l e s m below meth c en ac D b0 1112 [(4, .int (Int32.ofNat n)), (3, .ref 203), (2, .ref 180), (1, .ref 0), (0, .retAddr 200)] [] hp k ks := by
  have hR := lw_hR
  obtain ⟨r, r2, hc, hd, fs, gs, m1, m2, I2, f1, g1, X2⟩ := op_told l s.heap.size en ac D I.1 (xs (n + 1))
  repeat (refine wk_s hR hC MM_val rfl rfl (KW_ok ?_); try dsimp only)
  refine lw_sl2 hC hX hbl hen rfl (lw_a1 n) (lw_b1 hn) hL ?_
  repeat (refine wk_s hR hC MM_val rfl rfl (KW_ok ?_); try dsimp only)
  refine wk_V (z := 0) (As := [.int (xs (n + 1))]) (rest := []) hR hC MM_val rfl (by decide) m1 f1 rfl rfl (Nat.le_of_ble_eq_true rfl) ⟨Nat.le_trans hk lw_k0, Nat.le_trans hks lw_s0⟩ ?_
  simp only [Option.toList, List.cons_append, List.nil_append]
  repeat (refine wk_s hR hC MM_val rfl rfl (KW_ok ?_); try dsimp only)
  refine lw_sl2 hC hX hbl hen rfl (lw_a1 n) (lw_b1 hn) hL ?_
  repeat (refine wk_s hR hC MM_val rfl rfl (KW_ok ?_); try dsimp only)
  refine wk_V (z := 180) (As := [.int (xs (n + 1))]) (rest := []) hR hC MM_val rfl (by decide) m2 g1 rfl rfl (Nat.le_of_ble_eq_true rfl) ⟨Nat.le_trans hk lw_k0, Nat.le_trans hks lw_s0⟩ ?_
  simp only [Option.toList, List.cons_append, List.nil_append]
  refine wk_s hR hC MM_val rfl rfl (KW_ok ?_)
  refine wk_s hR hC MM_val rfl rfl (KW_ok ?_)
  exact next hd ⟨I2, X2 I.2⟩
set_option maxRecDepth 100000 in
set_option maxHeartbeats 4000000 in
/-- sentence -/
theorem lo_34 {p : Program} {l : Launch} {e : Env} {s : State} {m : MethodId} {below : List Frame} {meth : Method} {c : Code} {en ac : Nat → Nat} {D : va_G} {b0 : Nat} {n Ln k ks : Nat} {xs : Nat → Int32} {hp : List AE} (hC : ex_C p s m #[Value.ref b0] meth c s.heap.size en ac D MM 300) (hX : va_X b0 Ln xs s s.heap) (hbl : b0 < s.heap.size) (hen : en 200 = b0) (hn : n + 6 ≤ Ln) (hL : Ln ≤ 3072) (I : LIX hp) (hk : k ≤ 601024) (hks : ks ≤ 7293034) (next : ∀ hd, LIX hd → LK p l e s m below meth c en ac D b0 1250 [(4, .int (Int32.ofNat n)), (3, .ref 203), (2, .ref 180), (1, .ref 0), (0, .retAddr 200)] [] hd k ks) : LK p l e s m below meth c en ac D b0 1137 [(4, .int (Int32.ofNat n)), (3, .ref 203), (2, .ref 180), (1, .ref 0), (0, .retAddr 200)] [] hp k ks := by
  have hR := lw_hR
  obtain ⟨r, r2, hc, hd, fs, gs, m1, m2, I2, f1, g1, X2⟩ := op_sentence l s.heap.size en ac D I.1 
  repeat (refine wk_s hR hC MM_val rfl rfl (KW_ok ?_); try dsimp only)
  refine wk_V (z := 0) (As := []) (rest := []) hR hC MM_val rfl (by decide) m1 f1 rfl rfl (Nat.le_of_ble_eq_true rfl) ⟨Nat.le_trans hk lw_k0, Nat.le_trans hks lw_s0⟩ ?_
  simp only [Option.toList, List.cons_append, List.nil_append]
  repeat (refine wk_s hR hC MM_val rfl rfl (KW_ok ?_); try dsimp only)
  refine wk_V (z := 180) (As := []) (rest := []) hR hC MM_val rfl (by decide) m2 g1 rfl rfl (Nat.le_of_ble_eq_true rfl) ⟨Nat.le_trans hk lw_k0, Nat.le_trans hks lw_s0⟩ ?_
  simp only [Option.toList, List.cons_append, List.nil_append]
  refine wk_s hR hC MM_val rfl rfl (KW_ok ?_)
  refine wk_s hR hC MM_val rfl rfl (KW_ok ?_)
  exact next hd ⟨I2, X2 I.2⟩
set_option maxRecDepth 100000 in
set_option maxHeartbeats 4000000 in
/-- said -/
theorem lo_35 {p : Program} {l : Launch} {e : Env} {s : State} {m : MethodId} {below : List Frame} {meth : Method} {c : Code} {en ac : Nat → Nat} {D : va_G} {b0 : Nat} {n Ln k ks : Nat} {xs : Nat → Int32} {hp : List AE} (hC : ex_C p s m #[Value.ref b0] meth c s.heap.size en ac D MM 300) (hX : va_X b0 Ln xs s s.heap) (hbl : b0 < s.heap.size) (hen : en 200 = b0) (hn : n + 6 ≤ Ln) (hL : Ln ≤ 3072) (I : LIX hp) (hk : k ≤ 601024) (hks : ks ≤ 7293034) (next : ∀ hd, LIX hd → LK p l e s m below meth c en ac D b0 1250 [(4, .int (Int32.ofNat n)), (3, .ref 203), (2, .ref 180), (1, .ref 0), (0, .retAddr 200)] [] hd k ks) : LK p l e s m below meth c en ac D b0 1150 [(4, .int (Int32.ofNat n)), (3, .ref 203), (2, .ref 180), (1, .ref 0), (0, .retAddr 200)] [] hp k ks := by
  have hR := lw_hR
  obtain ⟨r, r2, hc, hd, fs, gs, m1, m2, I2, f1, g1, X2⟩ := op_said l s.heap.size en ac D I.1 (xs (n + 1))
  repeat (refine wk_s hR hC MM_val rfl rfl (KW_ok ?_); try dsimp only)
  refine lw_sl2 hC hX hbl hen rfl (lw_a1 n) (lw_b1 hn) hL ?_
  repeat (refine wk_s hR hC MM_val rfl rfl (KW_ok ?_); try dsimp only)
  refine wk_V (z := 0) (As := [.int (xs (n + 1))]) (rest := []) hR hC MM_val rfl (by decide) m1 f1 rfl rfl (Nat.le_of_ble_eq_true rfl) ⟨Nat.le_trans hk lw_k0, Nat.le_trans hks lw_s0⟩ ?_
  simp only [Option.toList, List.cons_append, List.nil_append]
  repeat (refine wk_s hR hC MM_val rfl rfl (KW_ok ?_); try dsimp only)
  refine lw_sl2 hC hX hbl hen rfl (lw_a1 n) (lw_b1 hn) hL ?_
  repeat (refine wk_s hR hC MM_val rfl rfl (KW_ok ?_); try dsimp only)
  refine wk_V (z := 180) (As := [.int (xs (n + 1))]) (rest := []) hR hC MM_val rfl (by decide) m2 g1 rfl rfl (Nat.le_of_ble_eq_true rfl) ⟨Nat.le_trans hk lw_k0, Nat.le_trans hks lw_s0⟩ ?_
  simp only [Option.toList, List.cons_append, List.nil_append]
  refine wk_s hR hC MM_val rfl rfl (KW_ok ?_)
  refine wk_s hR hC MM_val rfl rfl (KW_ok ?_)
  exact next hd ⟨I2, X2 I.2⟩
set_option maxRecDepth 100000 in
set_option maxHeartbeats 4000000 in
/-- image -/
theorem lo_36 {p : Program} {l : Launch} {e : Env} {s : State} {m : MethodId} {below : List Frame} {meth : Method} {c : Code} {en ac : Nat → Nat} {D : va_G} {b0 : Nat} {n Ln k ks : Nat} {xs : Nat → Int32} {hp : List AE} (hC : ex_C p s m #[Value.ref b0] meth c s.heap.size en ac D MM 300) (hX : va_X b0 Ln xs s s.heap) (hbl : b0 < s.heap.size) (hen : en 200 = b0) (hn : n + 6 ≤ Ln) (hL : Ln ≤ 3072) (I : LIX hp) (hk : k ≤ 601024) (hks : ks ≤ 7293034) (next : ∀ hd, LIX hd → LK p l e s m below meth c en ac D b0 1250 [(4, .int (Int32.ofNat n)), (3, .ref 203), (2, .ref 180), (1, .ref 0), (0, .retAddr 200)] [] hd k ks) : LK p l e s m below meth c en ac D b0 1175 [(4, .int (Int32.ofNat n)), (3, .ref 203), (2, .ref 180), (1, .ref 0), (0, .retAddr 200)] [] hp k ks := by
  have hR := lw_hR
  obtain ⟨r, hc, hd, fs, gs, m1, m2, I2, f1, g1, X2⟩ := op_image l s.heap.size en ac D I.1 I.2 (xs (n + 1))
  repeat (refine wk_s hR hC MM_val rfl rfl (KW_ok ?_); try dsimp only)
  refine lw_sl2 hC hX hbl hen rfl (lw_a1 n) (lw_b1 hn) hL ?_
  repeat (refine wk_s hR hC MM_val rfl rfl (KW_ok ?_); try dsimp only)
  refine wk_V (z := 0) (As := [.int (xs (n + 1))]) (rest := []) hR hC MM_val rfl (by decide) m1 f1 rfl rfl (Nat.le_of_ble_eq_true rfl) ⟨Nat.le_trans hk lw_k0, Nat.le_trans hks lw_s0⟩ ?_
  simp only [Option.toList, List.cons_append, List.nil_append]
  repeat (refine wk_s hR hC MM_val rfl rfl (KW_ok ?_); try dsimp only)
  refine lw_sl2 hC hX hbl hen rfl (lw_a1 n) (lw_b1 hn) hL ?_
  repeat (refine wk_s hR hC MM_val rfl rfl (KW_ok ?_); try dsimp only)
  refine wk_V (z := 180) (As := [.int (xs (n + 1))]) (rest := []) hR hC MM_val rfl (by decide) m2 g1 rfl rfl (Nat.le_of_ble_eq_true rfl) ⟨Nat.le_trans hk lw_k0, Nat.le_trans hks lw_s0⟩ ?_
  simp only [Option.toList, List.cons_append, List.nil_append]
  refine wk_s hR hC MM_val rfl rfl (KW_ok ?_)
  refine wk_s hR hC MM_val rfl rfl (KW_ok ?_)
  exact next hd ⟨I2, X2 I.2⟩
set_option maxRecDepth 100000 in
set_option maxHeartbeats 4000000 in
/-- restore -/
theorem lo_37 {p : Program} {l : Launch} {e : Env} {s : State} {m : MethodId} {below : List Frame} {meth : Method} {c : Code} {en ac : Nat → Nat} {D : va_G} {b0 : Nat} {n Ln k ks : Nat} {xs : Nat → Int32} {hp : List AE} (hC : ex_C p s m #[Value.ref b0] meth c s.heap.size en ac D MM 300) (hX : va_X b0 Ln xs s s.heap) (hbl : b0 < s.heap.size) (hen : en 200 = b0) (hn : n + 6 ≤ Ln) (hL : Ln ≤ 3072) (I : LIX hp) (hk : k ≤ 601024) (hks : ks ≤ 7293034) (next : ∀ hd, LIX hd → LK p l e s m below meth c en ac D b0 1250 [(4, .int (Int32.ofNat n)), (3, .ref 203), (2, .ref 180), (1, .ref 0), (0, .retAddr 200)] [] hd k ks) : LK p l e s m below meth c en ac D b0 1200 [(4, .int (Int32.ofNat n)), (3, .ref 203), (2, .ref 180), (1, .ref 0), (0, .retAddr 200)] [] hp k ks := by
  have hR := lw_hR
  obtain ⟨r, hc, hd, fs, gs, m1, m2, I2, f1, g1, X2⟩ := op_restore l s.heap.size en ac D I.1 I.2 (xs (n + 1))
  repeat (refine wk_s hR hC MM_val rfl rfl (KW_ok ?_); try dsimp only)
  refine lw_sl2 hC hX hbl hen rfl (lw_a1 n) (lw_b1 hn) hL ?_
  repeat (refine wk_s hR hC MM_val rfl rfl (KW_ok ?_); try dsimp only)
  refine wk_V (z := 0) (As := [.int (xs (n + 1))]) (rest := []) hR hC MM_val rfl (by decide) m1 f1 rfl rfl (Nat.le_of_ble_eq_true rfl) ⟨Nat.le_trans hk lw_k0, Nat.le_trans hks lw_s0⟩ ?_
  simp only [Option.toList, List.cons_append, List.nil_append]
  repeat (refine wk_s hR hC MM_val rfl rfl (KW_ok ?_); try dsimp only)
  refine lw_sl2 hC hX hbl hen rfl (lw_a1 n) (lw_b1 hn) hL ?_
  repeat (refine wk_s hR hC MM_val rfl rfl (KW_ok ?_); try dsimp only)
  refine wk_V (z := 180) (As := [.int (xs (n + 1))]) (rest := []) hR hC MM_val rfl (by decide) m2 g1 rfl rfl (Nat.le_of_ble_eq_true rfl) ⟨Nat.le_trans hk lw_k0, Nat.le_trans hks lw_s0⟩ ?_
  simp only [Option.toList, List.cons_append, List.nil_append]
  refine wk_s hR hC MM_val rfl rfl (KW_ok ?_)
  refine wk_s hR hC MM_val rfl rfl (KW_ok ?_)
  exact next hd ⟨I2, X2 I.2⟩
set_option maxRecDepth 100000 in
set_option maxHeartbeats 4000000 in
/-- count -/
theorem lo_38 {p : Program} {l : Launch} {e : Env} {s : State} {m : MethodId} {below : List Frame} {meth : Method} {c : Code} {en ac : Nat → Nat} {D : va_G} {b0 : Nat} {n Ln k ks : Nat} {xs : Nat → Int32} {hp : List AE} (hC : ex_C p s m #[Value.ref b0] meth c s.heap.size en ac D MM 300) (hX : va_X b0 Ln xs s s.heap) (hbl : b0 < s.heap.size) (hen : en 200 = b0) (hn : n + 6 ≤ Ln) (hL : Ln ≤ 3072) (I : LIX hp) (hk : k ≤ 601024) (hks : ks ≤ 7293034) (next : ∀ hd, LIX hd → LK p l e s m below meth c en ac D b0 1250 [(4, .int (Int32.ofNat n)), (3, .ref 203), (2, .ref 180), (1, .ref 0), (0, .retAddr 200)] [] hd k ks) : LK p l e s m below meth c en ac D b0 1225 [(4, .int (Int32.ofNat n)), (3, .ref 203), (2, .ref 180), (1, .ref 0), (0, .retAddr 200)] [] hp k ks := by
  have hR := lw_hR
  obtain ⟨r, r2, hc, hd, fs, gs, m1, m2, I2, f1, g1, X2⟩ := op_count l s.heap.size en ac D I.1 (xs (n + 1))
  repeat (refine wk_s hR hC MM_val rfl rfl (KW_ok ?_); try dsimp only)
  refine lw_sl2 hC hX hbl hen rfl (lw_a1 n) (lw_b1 hn) hL ?_
  repeat (refine wk_s hR hC MM_val rfl rfl (KW_ok ?_); try dsimp only)
  refine wk_V (z := 0) (As := [.int (xs (n + 1))]) (rest := []) hR hC MM_val rfl (by decide) m1 f1 rfl rfl (Nat.le_of_ble_eq_true rfl) ⟨Nat.le_trans hk lw_k0, Nat.le_trans hks lw_s0⟩ ?_
  simp only [Option.toList, List.cons_append, List.nil_append]
  repeat (refine wk_s hR hC MM_val rfl rfl (KW_ok ?_); try dsimp only)
  refine lw_sl2 hC hX hbl hen rfl (lw_a1 n) (lw_b1 hn) hL ?_
  repeat (refine wk_s hR hC MM_val rfl rfl (KW_ok ?_); try dsimp only)
  refine wk_V (z := 180) (As := [.int (xs (n + 1))]) (rest := []) hR hC MM_val rfl (by decide) m2 g1 rfl rfl (Nat.le_of_ble_eq_true rfl) ⟨Nat.le_trans hk lw_k0, Nat.le_trans hks lw_s0⟩ ?_
  simp only [Option.toList, List.cons_append, List.nil_append]
  refine wk_s hR hC MM_val rfl rfl (KW_ok ?_)
  refine wk_s hR hC MM_val rfl rfl (KW_ok ?_)
  exact next hd ⟨I2, X2 I.2⟩
