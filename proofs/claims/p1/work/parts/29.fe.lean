/-! ===== feed ===== -/
def feV (a sh : Int32) : Int32 := ((a.toUInt32 >>> (sh.toUInt32 &&& Int32.toUInt32 31)).toInt32).toInt8.toInt32.toInt8.toInt32
def feU (a sh : Int32) : Int32 := (a.toUInt32 >>> (sh.toUInt32 &&& Int32.toUInt32 31)).toInt32 &&& 255
def feH (n : Nat) (B : List Int32) : List AE := (ev_hB.set 1 (.inr (9, [.ref 2, .int (Int32.ofNat n), .int 0, .int 0, .int 0, .int 0, .retAddr 0, .long 0, .int 0, .int 0, .int 0, .int 0]))).set 2 (.inl (0, .inl B))
theorem fe_s (h : List AE) (i j : Nat) (x y z t : AE) (hij : j ≠ i) : (((h.set i x).set j y).set j z).set i t = (h.set i t).set j z := by
  rw [List.set_set, List.set_comm _ _ hij, List.set_set]
set_option maxRecDepth 100000 in
set_option maxHeartbeats 4000000 in
theorem fe_xr {p : Program} {l : Launch} {e : Env} {s : State} {m : MethodId} {args : Array Value} {below : List Frame} {meth : Method} {c : Code} {Q : State → Prop} {b : Nat} {en ac : Nat → Nat} {D : va_G} (hC : ev_C p s m args meth c b en ac D MM 89) (a sh s2 : Int32) (n : Nat) (B : List Int32) (h0 : ¬ sh < 0) (hs : sh + Int32.ofInt (-8) = s2) (hn : n < 940) (hB : B.length = 940) (w : Wk p l e (ev_rm MM 8 89) s m args below meth c b en ac D MM 89 Q 3 [(2, .int s2), (0, .ref 1), (1, .int a)] [] (feH (n + 1) (B.set n (feV a sh))) 0 0) : Wk p l e (ev_rm MM 8 89) s m args below meth c b en ac D MM 89 Q 3 [(2, .int sh), (0, .ref 1), (1, .int a)] [] (feH n B) 0 0 := by
  have hR := ev_rmR MM 7 89
  have h3 : ev_rd B (Int32.ofNat n) = some (B.getD n 0) := ev_rd_gd B 0 n (by omega) (by omega)
  have h4 : (Int32.ofNat n).toNatClampNeg = n := i_cl _ (by omega)
  refine wk_s hR hC MM_val rfl rfl (KW_ok ?_)
  refine wk_s hR hC MM_val rfl rfl (KW_ok ?_)
  refine wk_cF h0 ?_
  refine wk_s hR hC MM_val rfl rfl (KW_ok ?_)
  refine wk_s hR hC MM_val rfl rfl (KW_ok ?_)
  refine wk_s hR hC MM_val rfl rfl (KW_ok ?_)
  refine wk_cF (i_nn n (by omega)) ?_
  refine wk_s hR hC MM_val rfl rfl (KW_ok ?_)
  refine wk_s hR hC MM_val rfl rfl (KW_ok ?_)
  refine wk_s hR hC MM_val rfl rfl (KW_ok ?_)
  refine wk_s hR hC MM_val rfl rfl (KW_ok ?_)
  refine wk_cF (i_le 940 n (by omega) (by omega) hn) ?_
  refine wk_s hR hC MM_val rfl rfl (KW_ok ?_)
  refine wk_s hR hC MM_val rfl rfl (KW_ok ?_)
  refine wk_s hR hC MM_val rfl rfl (KW_ok ?_)
  refine wk_s hR hC MM_val rfl rfl (KW_ok ?_)
  refine wk_s hR hC MM_val rfl rfl (KW_ok ?_)
  refine wk_s hR hC MM_val rfl rfl (KW_ok ?_)
  refine wk_s hR hC MM_val rfl rfl (KW_ok ?_)
  refine wk_s hR hC MM_val rfl rfl (KW_ok ?_)
  refine wk_bs (li := B) (i := Int32.ofNat n) (v := ((a.toUInt32 >>> (sh.toUInt32 &&& Int32.toUInt32 31)).toInt32).toInt8.toInt32) hR hC MM_val rfl rfl h3 ?_
  rw [h4]
  refine wk_s hR hC MM_val rfl rfl (KW_ok ?_)
  refine wk_s hR hC MM_val rfl rfl (KW_ok ?_)
  refine wk_s hR hC MM_val rfl rfl (KW_ok ?_)
  refine wk_s hR hC MM_val rfl rfl (KW_ok ?_)
  refine wk_s hR hC MM_val rfl rfl (KW_ok ?_)
  refine wk_s hR hC MM_val rfl rfl (KW_ok ?_)
  refine wk_s hR hC MM_val rfl rfl (KW_ok ?_)
  refine wk_s hR hC MM_val rfl rfl (KW_ok ?_)
  refine wk_eq (congrArg (fun v => [(2, Value.int v), (0, Value.ref 1), (1, Value.int a)]) hs) ?_ w
  refine Eq.trans ?_ (fe_s ev_hB 1 2 (.inr (9, [.ref 2, .int (Int32.ofNat n), .int 0, .int 0, .int 0, .int 0, .retAddr 0, .long 0, .int 0, .int 0, .int 0, .int 0])) (.inl (0, .inl B)) (.inl (0, .inl (B.set n (feV a sh)))) (.inr (9, [.ref 2, .int (Int32.ofNat (n + 1)), .int 0, .int 0, .int 0, .int 0, .retAddr 0, .long 0, .int 0, .int 0, .int 0, .int 0])) (by decide))
  rw [← i_s1]
  rfl
def feB (a : Int32) (n : Nat) (B : List Int32) : List Int32 := (((B.set n (feV a 24)).set (n + 1) (feV a 16)).set (n + 1 + 1) (feV a 8)).set (n + 1 + 1 + 1) (feV a 0)
theorem feB_n (a : Int32) (n : Nat) (B : List Int32) : (feB a n B).length = B.length := by unfold feB; simp only [List.length_set]
set_option maxRecDepth 100000 in
set_option maxHeartbeats 4000000 in
theorem fe_xp (l : Launch) (b : Nat) (en ac : Nat → Nat) (D : va_G) (a : Int32) (n : Nat) (B : List Int32) (hn : n + 4 ≤ 940) (hB : B.length = 940) : ev_M l b en ac D MM 8 89 [.ref 1, .int a] (feH n B) (none, feH (n + 4) (feB a n B)) := by
  refine ev_mk (by decide +kernel) (Nat.le_of_ble_eq_true rfl) (fun p e s m args below meth c hC => ?_)
  have hR := ev_rmR MM 7 89
  refine wk_s hR hC MM_val rfl rfl (KW_ok ?_)
  refine wk_s hR hC MM_val rfl rfl (KW_ok ?_)
  refine fe_xr hC a 24 16 _ _ (by decide +kernel) (by decide +kernel) (by omega) (by first | exact hB | (simp only [List.length_set]; exact hB)) ?_
  refine fe_xr hC a 16 8 _ _ (by decide +kernel) (by decide +kernel) (by omega) (by first | exact hB | (simp only [List.length_set]; exact hB)) ?_
  refine fe_xr hC a 8 0 _ _ (by decide +kernel) (by decide +kernel) (by omega) (by first | exact hB | (simp only [List.length_set]; exact hB)) ?_
  refine fe_xr hC a 0 (-8) _ _ (by decide +kernel) (by decide +kernel) (by omega) (by first | exact hB | (simp only [List.length_set]; exact hB)) ?_
  refine wk_s hR hC MM_val rfl rfl (KW_ok ?_)
  refine wk_s hR hC MM_val rfl rfl (KW_ok ?_)
  refine wk_pT rfl ?_
  exact wk_r hR hC MM_val rfl rfl rfl
def fe_fs (n : Nat) : List Value := [.int 0, .ref 181, .int (Int32.ofNat n), .int 0, .int 0, .int 0, .int 0, .int 0, .int 0, .int 0, .int 0, .int 0, .long 0, .int 0, .ref 182, .ref 183, .ref 184, .ref 185, .ref 186, .ref 187, .ref 188, .ref 189, .ref 190, .ref 191, .int 0, .ref 192, .ref 193, .ref 194, .int 0, .int 0, .ref 195, .ref 196, .int 0, .int (-1), .int (-1), .ref 197, .ref 198, .int 0, .int 0, .int 0, .ref 199, .int 0, .int 0, .ref 200, .ref 201, .int 0, .int 0, .ref 202, .int 0, .int 0, .int 0, .int 0]
def fmH (C : List Int32) (n : Nat) (B : List Int32) : List AE := ((feH 20 C).set 180 (.inr (11, fe_fs n))).set 181 (.inl (1, .inl B))
set_option maxRecDepth 100000 in
set_option maxHeartbeats 4000000 in
theorem fe_mr {p : Program} {l : Launch} {e : Env} {s : State} {m : MethodId} {args : Array Value} {below : List Frame} {meth : Method} {c : Code} {Q : State → Prop} {b : Nat} {en ac : Nat → Nat} {D : va_G} (hC : ev_C p s m args meth c b en ac D MM 102) (C : List Int32) (a sh s2 : Int32) (n : Nat) (B : List Int32) (h0 : ¬ sh < 0) (hs : sh + Int32.ofInt (-8) = s2) (hn : n < 940) (hB : B.length = 940) (w : Wk p l e (ev_rm MM 8 102) s m args below meth c b en ac D MM 102 Q 3 [(2, .int s2), (0, .ref 180), (1, .int a)] [] (fmH C (n + 1) (B.set n (feU a sh))) 0 0) : Wk p l e (ev_rm MM 8 102) s m args below meth c b en ac D MM 102 Q 3 [(2, .int sh), (0, .ref 180), (1, .int a)] [] (fmH C n B) 0 0 := by
  have hR := ev_rmR MM 7 102
  have h3 : ev_rd B (Int32.ofNat n) = some (B.getD n 0) := ev_rd_gd B 0 n (by omega) (by omega)
  have h4 : (Int32.ofNat n).toNatClampNeg = n := i_cl _ (by omega)
  refine wk_s hR hC MM_val rfl rfl (KW_ok ?_)
  refine wk_s hR hC MM_val rfl rfl (KW_ok ?_)
  refine wk_cF h0 ?_
  refine wk_s hR hC MM_val rfl rfl (KW_ok ?_)
  refine wk_s hR hC MM_val rfl rfl (KW_ok ?_)
  refine wk_s hR hC MM_val rfl rfl (KW_ok ?_)
  refine wk_s hR hC MM_val rfl rfl (KW_ok ?_)
  refine wk_s hR hC MM_val rfl rfl (KW_ok ?_)
  refine wk_s hR hC MM_val rfl rfl (KW_ok ?_)
  refine wk_s hR hC MM_val rfl rfl (KW_ok ?_)
  refine wk_s hR hC MM_val rfl rfl (KW_ok ?_)
  refine wk_s hR hC MM_val rfl rfl (KW_ok ?_)
  refine wk_is (li := B) (i := Int32.ofNat n) (v := feU a sh) hR hC MM_val rfl rfl h3 ?_
  rw [h4]
  refine wk_s hR hC MM_val rfl rfl (KW_ok ?_)
  refine wk_s hR hC MM_val rfl rfl (KW_ok ?_)
  refine wk_s hR hC MM_val rfl rfl (KW_ok ?_)
  refine wk_s hR hC MM_val rfl rfl (KW_ok ?_)
  refine wk_s hR hC MM_val rfl rfl (KW_ok ?_)
  refine wk_s hR hC MM_val rfl rfl (KW_ok ?_)
  refine wk_s hR hC MM_val rfl rfl (KW_ok ?_)
  refine wk_s hR hC MM_val rfl rfl (KW_ok ?_)
  refine wk_eq (congrArg (fun v => [(2, Value.int v), (0, Value.ref 180), (1, Value.int a)]) hs) ?_ w
  refine Eq.trans ?_ (fe_s (feH 20 C) 180 181 (.inr (11, fe_fs n)) (.inl (1, .inl B)) (.inl (1, .inl (B.set n (feU a sh)))) (.inr (11, fe_fs (n + 1))) (by decide))
  unfold fe_fs
  rw [← i_s1]
  rfl
def feT (a : Int32) (n : Nat) (B : List Int32) : List Int32 := (((B.set n (feU a 24)).set (n + 1) (feU a 16)).set (n + 1 + 1) (feU a 8)).set (n + 1 + 1 + 1) (feU a 0)
theorem feT_n (a : Int32) (n : Nat) (B : List Int32) : (feT a n B).length = B.length := by unfold feT; simp only [List.length_set]
set_option maxRecDepth 100000 in
set_option maxHeartbeats 4000000 in
theorem fe_mp (l : Launch) (b : Nat) (en ac : Nat → Nat) (D : va_G) (C : List Int32) (a : Int32) (n : Nat) (B : List Int32) (hn : n + 4 ≤ 940) (hB : B.length = 940) : ev_M l b en ac D MM 8 102 [.ref 180, .int a] (fmH C n B) (none, fmH C (n + 4) (feT a n B)) := by
  refine ev_mk (by decide +kernel) (Nat.le_of_ble_eq_true rfl) (fun p e s m args below meth c hC => ?_)
  have hR := ev_rmR MM 7 102
  refine wk_s hR hC MM_val rfl rfl (KW_ok ?_)
  refine wk_s hR hC MM_val rfl rfl (KW_ok ?_)
  refine fe_mr hC C a 24 16 _ _ (by decide +kernel) (by decide +kernel) (by omega) (by first | exact hB | (simp only [List.length_set]; exact hB)) ?_
  refine fe_mr hC C a 16 8 _ _ (by decide +kernel) (by decide +kernel) (by omega) (by first | exact hB | (simp only [List.length_set]; exact hB)) ?_
  refine fe_mr hC C a 8 0 _ _ (by decide +kernel) (by decide +kernel) (by omega) (by first | exact hB | (simp only [List.length_set]; exact hB)) ?_
  refine fe_mr hC C a 0 (-8) _ _ (by decide +kernel) (by decide +kernel) (by omega) (by first | exact hB | (simp only [List.length_set]; exact hB)) ?_
  refine wk_s hR hC MM_val rfl rfl (KW_ok ?_)
  refine wk_s hR hC MM_val rfl rfl (KW_ok ?_)
  refine wk_pT rfl ?_
  exact wk_r hR hC MM_val rfl rfl rfl
def feX (z z2 z3 z4 z5 : Int32) : List Int32 := (feB z5 16 (feB z4 12 (feB z3 8 (feB z2 4 (feB z 0 (List.replicate 940 0))))))
def feY (z z2 z3 z4 z5 : Int32) : List Int32 := (feT z5 16 (feT z4 12 (feT z3 8 (feT z2 4 (feT z 0 (List.replicate 940 0))))))
set_option maxRecDepth 100000 in
set_option maxHeartbeats 4000000 in
theorem cx_feed (l : Launch) (b : Nat) (en ac : Nat → Nat) (D : va_G) (z z2 z3 z4 z5 : Int32) : ev_M l b en ac D MM 9 17 [.ref 0, .int z, .int z2, .int z3, .int z4, .int z5] ev_hB (some (.int (Int32.ofNat 20)), feH 20 (feX z z2 z3 z4 z5)) := by
  refine ev_mk (by decide +kernel) (Nat.le_of_ble_eq_true rfl) (fun p e s m args below meth c hC => ?_)
  have hR := ev_rmR MM 8 17
  refine wk_heap (feH 0 (List.replicate 940 0)) (by decide +kernel) ?_
  refine wk_s hR hC MM_val rfl rfl (KW_ok ?_)
  refine wk_s hR hC MM_val rfl rfl (KW_ok ?_)
  refine wk_s hR hC MM_val rfl rfl (KW_ok ?_)
  refine wk_s hR hC MM_val rfl rfl (KW_ok ?_)
  refine wk_s hR hC MM_val rfl rfl (KW_ok ?_)
  refine wk_pT rfl ?_
  refine wk_s hR hC MM_val rfl rfl (KW_ok ?_)
  refine wk_s hR hC MM_val rfl rfl (KW_ok ?_)
  refine wk_s hR hC MM_val rfl rfl (KW_ok ?_)
  refine wk_V (z := 1) (As := [.int z]) (rest := []) hR hC MM_val rfl (by decide) (fe_xp l b en ac D z 0 _ (by omega) (by simp only [feB_n, feT_n, List.length_replicate])) rfl rfl rfl (Nat.le_of_ble_eq_true rfl) ⟨Nat.le_refl _, Nat.le_refl _⟩ ?_
  simp only [Option.toList, List.cons_append, List.nil_append]
  refine wk_s hR hC MM_val rfl rfl (KW_ok ?_)
  refine wk_s hR hC MM_val rfl rfl (KW_ok ?_)
  refine wk_s hR hC MM_val rfl rfl (KW_ok ?_)
  refine wk_V (z := 1) (As := [.int z2]) (rest := []) hR hC MM_val rfl (by decide) (fe_xp l b en ac D z2 4 _ (by omega) (by simp only [feB_n, feT_n, List.length_replicate])) rfl rfl rfl (Nat.le_of_ble_eq_true rfl) ⟨Nat.le_refl _, Nat.le_refl _⟩ ?_
  simp only [Option.toList, List.cons_append, List.nil_append]
  refine wk_s hR hC MM_val rfl rfl (KW_ok ?_)
  refine wk_s hR hC MM_val rfl rfl (KW_ok ?_)
  refine wk_s hR hC MM_val rfl rfl (KW_ok ?_)
  refine wk_V (z := 1) (As := [.int z3]) (rest := []) hR hC MM_val rfl (by decide) (fe_xp l b en ac D z3 8 _ (by omega) (by simp only [feB_n, feT_n, List.length_replicate])) rfl rfl rfl (Nat.le_of_ble_eq_true rfl) ⟨Nat.le_refl _, Nat.le_refl _⟩ ?_
  simp only [Option.toList, List.cons_append, List.nil_append]
  refine wk_s hR hC MM_val rfl rfl (KW_ok ?_)
  refine wk_s hR hC MM_val rfl rfl (KW_ok ?_)
  refine wk_s hR hC MM_val rfl rfl (KW_ok ?_)
  refine wk_V (z := 1) (As := [.int z4]) (rest := []) hR hC MM_val rfl (by decide) (fe_xp l b en ac D z4 12 _ (by omega) (by simp only [feB_n, feT_n, List.length_replicate])) rfl rfl rfl (Nat.le_of_ble_eq_true rfl) ⟨Nat.le_refl _, Nat.le_refl _⟩ ?_
  simp only [Option.toList, List.cons_append, List.nil_append]
  refine wk_s hR hC MM_val rfl rfl (KW_ok ?_)
  refine wk_s hR hC MM_val rfl rfl (KW_ok ?_)
  refine wk_s hR hC MM_val rfl rfl (KW_ok ?_)
  refine wk_V (z := 1) (As := [.int z5]) (rest := []) hR hC MM_val rfl (by decide) (fe_xp l b en ac D z5 16 _ (by omega) (by simp only [feB_n, feT_n, List.length_replicate])) rfl rfl rfl (Nat.le_of_ble_eq_true rfl) ⟨Nat.le_refl _, Nat.le_refl _⟩ ?_
  simp only [Option.toList, List.cons_append, List.nil_append]
  refine wk_s hR hC MM_val rfl rfl (KW_ok ?_)
  refine wk_s hR hC MM_val rfl rfl (KW_ok ?_)
  refine wk_s hR hC MM_val rfl rfl (KW_ok ?_)
  exact wk_r hR hC MM_val rfl rfl rfl
theorem fe_th (C : List Int32) : (feH 20 C).set 180 (.inr (11, (fe_fs 0).set 0 (.int 0))) = fmH C 0 (List.replicate 940 0) := by
  have h : ev_hB.set 180 (.inr (11, (fe_fs 0).set 0 (.int 0))) = (ev_hB.set 180 (.inr (11, fe_fs 0))).set 181 (.inl (1, .inl (List.replicate 940 0))) := hp_eq_ok (by decide +kernel)
  unfold fmH feH
  rw [List.set_comm _ _ (by decide : (2 : Nat) ≠ 180), List.set_comm _ _ (by decide : (1 : Nat) ≠ 180), h, List.set_comm _ _ (by decide : (2 : Nat) ≠ 180), List.set_comm _ _ (by decide : (1 : Nat) ≠ 180), List.set_comm _ _ (by decide : (2 : Nat) ≠ 181), List.set_comm _ _ (by decide : (1 : Nat) ≠ 181)]
set_option maxRecDepth 100000 in
set_option maxHeartbeats 4000000 in
theorem cm_feed (l : Launch) (b : Nat) (en ac : Nat → Nat) (D : va_G) (C : List Int32) (z z2 z3 z4 z5 : Int32) : ev_M l b en ac D MM 9 112 [.ref 180, .int z, .int z2, .int z3, .int z4, .int z5] (feH 20 C) (some (.int (Int32.ofNat 20)), fmH C 20 (feY z z2 z3 z4 z5)) := by
  refine ev_mk (by decide +kernel) (Nat.le_of_ble_eq_true rfl) (fun p e s m args below meth c hC => ?_)
  have hR := ev_rmR MM 8 112
  refine wk_s hR hC MM_val rfl rfl (KW_ok ?_)
  refine wk_s hR hC MM_val rfl rfl (KW_ok ?_)
  refine wk_s hR hC MM_val rfl rfl (KW_ok ?_)
  refine wk_eq rfl (fe_th C) ?_
  refine wk_s hR hC MM_val rfl rfl (KW_ok ?_)
  refine wk_s hR hC MM_val rfl rfl (KW_ok ?_)
  refine wk_s hR hC MM_val rfl rfl (KW_ok ?_)
  refine wk_s hR hC MM_val rfl rfl (KW_ok ?_)
  refine wk_s hR hC MM_val rfl rfl (KW_ok ?_)
  refine wk_s hR hC MM_val rfl rfl (KW_ok ?_)
  refine wk_pT rfl ?_
  refine wk_s hR hC MM_val rfl rfl (KW_ok ?_)
  refine wk_s hR hC MM_val rfl rfl (KW_ok ?_)
  refine wk_V (z := 180) (As := [.int z]) (rest := []) hR hC MM_val rfl (by decide) (fe_mp l b en ac D C z 0 _ (by omega) (by simp only [feB_n, feT_n, List.length_replicate])) rfl rfl rfl (Nat.le_of_ble_eq_true rfl) ⟨Nat.le_refl _, Nat.le_refl _⟩ ?_
  simp only [Option.toList, List.cons_append, List.nil_append]
  refine wk_s hR hC MM_val rfl rfl (KW_ok ?_)
  refine wk_s hR hC MM_val rfl rfl (KW_ok ?_)
  refine wk_V (z := 180) (As := [.int z2]) (rest := []) hR hC MM_val rfl (by decide) (fe_mp l b en ac D C z2 4 _ (by omega) (by simp only [feB_n, feT_n, List.length_replicate])) rfl rfl rfl (Nat.le_of_ble_eq_true rfl) ⟨Nat.le_refl _, Nat.le_refl _⟩ ?_
  simp only [Option.toList, List.cons_append, List.nil_append]
  refine wk_s hR hC MM_val rfl rfl (KW_ok ?_)
  refine wk_s hR hC MM_val rfl rfl (KW_ok ?_)
  refine wk_V (z := 180) (As := [.int z3]) (rest := []) hR hC MM_val rfl (by decide) (fe_mp l b en ac D C z3 8 _ (by omega) (by simp only [feB_n, feT_n, List.length_replicate])) rfl rfl rfl (Nat.le_of_ble_eq_true rfl) ⟨Nat.le_refl _, Nat.le_refl _⟩ ?_
  simp only [Option.toList, List.cons_append, List.nil_append]
  refine wk_s hR hC MM_val rfl rfl (KW_ok ?_)
  refine wk_s hR hC MM_val rfl rfl (KW_ok ?_)
  refine wk_V (z := 180) (As := [.int z4]) (rest := []) hR hC MM_val rfl (by decide) (fe_mp l b en ac D C z4 12 _ (by omega) (by simp only [feB_n, feT_n, List.length_replicate])) rfl rfl rfl (Nat.le_of_ble_eq_true rfl) ⟨Nat.le_refl _, Nat.le_refl _⟩ ?_
  simp only [Option.toList, List.cons_append, List.nil_append]
  refine wk_s hR hC MM_val rfl rfl (KW_ok ?_)
  refine wk_s hR hC MM_val rfl rfl (KW_ok ?_)
  refine wk_V (z := 180) (As := [.int z5]) (rest := []) hR hC MM_val rfl (by decide) (fe_mp l b en ac D C z5 16 _ (by omega) (by simp only [feB_n, feT_n, List.length_replicate])) rfl rfl rfl (Nat.le_of_ble_eq_true rfl) ⟨Nat.le_refl _, Nat.le_refl _⟩ ?_
  simp only [Option.toList, List.cons_append, List.nil_append]
  refine wk_s hR hC MM_val rfl rfl (KW_ok ?_)
  refine wk_s hR hC MM_val rfl rfl (KW_ok ?_)
  exact wk_r hR hC MM_val rfl rfl rfl
