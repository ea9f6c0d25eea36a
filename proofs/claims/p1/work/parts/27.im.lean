/-! ===== image of the reference: two loops ===== -/
theorem wk_eq {p : Program} {l : Launch} {e : Env} {R : Room} {s : State} {m : MethodId} {args : Array Value} {below : List Frame} {meth : Method} {c : Code} {Q : State → Prop} {b : Nat} {en ac : Nat → Nat} {D : va_G} {M : MT} {mi pc k ks : Nat} {L L' : List (Nat × Value)} {st : List Value} {hp hp' : List AE} (h1 : L = L') (h2 : hp = hp') (w : Wk p l e R s m args below meth c b en ac D M mi Q pc L' st hp' k ks) : Wk p l e R s m args below meth c b en ac D M mi Q pc L st hp k ks := by
  subst h1; subst h2; exact w
theorem ev_rd_gd {α : Type} (li : List α) (z : α) (n : Nat) (h : n < 2147483648) (hl : n < li.length) : ev_rd li (Int32.ofNat n) = some (li.getD n z) := by
  unfold ev_rd
  rw [if_neg (i_nn n h), i_cl n h, List.getD_eq_getElem?_getD, List.getElem?_eq_getElem hl]
  rfl
def im_now : List Int32 := [0, 0, 10, 3, 5] ++ List.replicate 127 0 ++ [(-1), (-1), (-1), (-1), (-1), (-1), (-1)] ++ List.replicate 257 0
def im_nam : List Int64 := List.replicate 15 0
theorem im_now_n : im_now.length = 396 := by decide +kernel
theorem i_s1 (n : Nat) : Int32.ofNat n + 1 = Int32.ofNat (n + 1) := (Int32.ofNat_add n 1).symm
def imK (q : Nat) : Nat → Nat → List Int32 → List Int32
  | 0, _, K => K
  | r + 1, n, K => imK q r (n + 1) (K.set (q + n) (im_now.getD n 0))
def imN (q : Nat) : Nat → Nat → List Int64 → List Int64
  | 0, _, K => K
  | r + 1, n, K => imN q r (n + 1) (K.set (q + n) (im_nam.getD n 0))
theorem im_set (h : List AE) (x y z : AE) : ((h.set 184 x).set 189 y).set 184 z = (h.set 184 z).set 189 y := by
  rw [List.set_comm _ _ (by decide), List.set_set]
theorem im_set2 (h : List AE) (x y z : AE) : ((h.set 184 x).set 189 y).set 189 z = (h.set 184 x).set 189 z := List.set_set _
def imH0 (K : List Int32) (N : List Int64) : List AE := (hc_image_0.set 184 (.inl (1, .inl K))).set 189 (.inl (2, .inr (.inl N)))
set_option maxRecDepth 100000 in
set_option maxHeartbeats 4000000 in
theorem im_a0 {p : Program} {l : Launch} {e : Env} {s : State} {m : MethodId} {args : Array Value} {below : List Frame} {meth : Method} {c : Code} {Q : State → Prop} {b : Nat} {en ac : Nat → Nat} {D : va_G} {d : Nat} (hC : ev_C p s m args meth c b en ac D MM 121) (n : Nat) (hn : n < 396) (K : List Int32) (N : List Int64) (hK : K.length = 792) (w : Wk p l e (ev_rm MM (d + 1) 121) s m args below meth c b en ac D MM 121 Q 18 [(2, .int (Int32.ofNat (n + 1))), (0, .ref 180), (1, .int 0)] [] (imH0 (K.set (0 + n) (im_now.getD n 0)) N) 0 0) : Wk p l e (ev_rm MM (d + 1) 121) s m args below meth c b en ac D MM 121 Q 18 [(2, .int (Int32.ofNat n)), (0, .ref 180), (1, .int 0)] [] (imH0 K N) 0 0 := by
  have hR := ev_rmR MM d 121
  have h1 : ¬ (396 : Int32) ≤ Int32.ofNat n := i_le 396 n (by omega) (by omega) hn
  have h2 : ev_rd im_now (Int32.ofNat n) = some (im_now.getD n 0) := ev_rd_gd im_now 0 n (by omega) (by rw [im_now_n]; exact hn)
  have h5 : (396 * 0 + Int32.ofNat n : Int32) = Int32.ofNat (0 + n) := (Int32.ofNat_add 0 n).symm
  have h3 : ev_rd K (396 * 0 + Int32.ofNat n) = some (K.getD (0 + n) 0) := by rw [h5]; exact ev_rd_gd K 0 (0 + n) (by omega) (by omega)
  have h4 : (396 * 0 + Int32.ofNat n : Int32).toNatClampNeg = 0 + n := by rw [h5]; exact i_cl _ (by omega)
  refine wk_s hR hC MM_val rfl rfl (KW_ok ?_)
  refine wk_s hR hC MM_val rfl rfl (KW_ok ?_)
  refine wk_s hR hC MM_val rfl rfl (KW_ok ?_)
  refine wk_cF h1 ?_
  refine wk_s hR hC MM_val rfl rfl (KW_ok ?_)
  refine wk_s hR hC MM_val rfl rfl (KW_ok ?_)
  refine wk_s hR hC MM_val rfl rfl (KW_ok ?_)
  refine wk_s hR hC MM_val rfl rfl (KW_ok ?_)
  refine wk_s hR hC MM_val rfl rfl (KW_ok ?_)
  refine wk_s hR hC MM_val rfl rfl (KW_ok ?_)
  refine wk_s hR hC MM_val rfl rfl (KW_ok ?_)
  refine wk_s hR hC MM_val rfl rfl (KW_ok ?_)
  refine wk_s hR hC MM_val rfl rfl (KW_ok ?_)
  refine wk_s hR hC MM_val rfl rfl (KW_ok ?_)
  refine wk_ld (li := im_now) hR hC MM_val rfl rfl h2 ?_
  refine wk_is (li := K) (i := 396 * 0 + Int32.ofNat n) (v := im_now.getD n 0) hR hC MM_val rfl rfl h3 ?_
  refine wk_s hR hC MM_val rfl rfl (KW_ok ?_)
  refine wk_s hR hC MM_val rfl rfl (KW_ok ?_)
  refine wk_eq (congrArg (fun v => [(2, Value.int v), (0, Value.ref 180), (1, Value.int 0)]) (i_s1 n)) ?_ w
  rw [h4]
  exact im_set _ _ _ _
theorem im_a0l {p : Program} {l : Launch} {e : Env} {s : State} {m : MethodId} {args : Array Value} {below : List Frame} {meth : Method} {c : Code} {Q : State → Prop} {b : Nat} {en ac : Nat → Nat} {D : va_G} {d : Nat} (hC : ev_C p s m args meth c b en ac D MM 121) : ∀ (r n : Nat) (K : List Int32) (N : List Int64), n + r = 396 → K.length = 792 → Wk p l e (ev_rm MM (d + 1) 121) s m args below meth c b en ac D MM 121 Q 18 [(2, .int (Int32.ofNat 396)), (0, .ref 180), (1, .int 0)] [] (imH0 (imK 0 r n K) N) 0 0 → Wk p l e (ev_rm MM (d + 1) 121) s m args below meth c b en ac D MM 121 Q 18 [(2, .int (Int32.ofNat n)), (0, .ref 180), (1, .int 0)] [] (imH0 K N) 0 0 := by
  intro r
  induction r with
  | zero =>
    intro n K N h hK w
    have h1 : n = 396 := by omega
    rw [h1]; exact w
  | succ r ih =>
    intro n K N h hK w
    refine im_a0 hC n (by omega) K N hK ?_
    refine ih (n + 1) _ _ (by omega) (by rw [List.length_set]; exact hK) ?_
    exact w
set_option maxRecDepth 100000 in
set_option maxHeartbeats 4000000 in
theorem im_b0 {p : Program} {l : Launch} {e : Env} {s : State} {m : MethodId} {args : Array Value} {below : List Frame} {meth : Method} {c : Code} {Q : State → Prop} {b : Nat} {en ac : Nat → Nat} {D : va_G} {d : Nat} (hC : ev_C p s m args meth c b en ac D MM 121) (n : Nat) (hn : n < 15) (K : List Int32) (N : List Int64) (hK : N.length = 30) (w : Wk p l e (ev_rm MM (d + 1) 121) s m args below meth c b en ac D MM 121 Q 51 [(2, .int (Int32.ofNat (n + 1))), (0, .ref 180), (1, .int 0)] [] (imH0 K (N.set (0 + n) (im_nam.getD n 0))) 0 0) : Wk p l e (ev_rm MM (d + 1) 121) s m args below meth c b en ac D MM 121 Q 51 [(2, .int (Int32.ofNat n)), (0, .ref 180), (1, .int 0)] [] (imH0 K N) 0 0 := by
  have hR := ev_rmR MM d 121
  have h1 : ¬ (15 : Int32) ≤ Int32.ofNat n := i_le 15 n (by omega) (by omega) hn
  have h2 : ev_rd im_nam (Int32.ofNat n) = some (im_nam.getD n 0) := ev_rd_gd im_nam 0 n (by omega) (by exact hn)
  have h5 : (15 * 0 + Int32.ofNat n : Int32) = Int32.ofNat (0 + n) := (Int32.ofNat_add 0 n).symm
  have h3 : ev_rd N (15 * 0 + Int32.ofNat n) = some (N.getD (0 + n) 0) := by rw [h5]; exact ev_rd_gd N 0 (0 + n) (by omega) (by omega)
  have h4 : (15 * 0 + Int32.ofNat n : Int32).toNatClampNeg = 0 + n := by rw [h5]; exact i_cl _ (by omega)
  refine wk_s hR hC MM_val rfl rfl (KW_ok ?_)
  refine wk_s hR hC MM_val rfl rfl (KW_ok ?_)
  refine wk_s hR hC MM_val rfl rfl (KW_ok ?_)
  refine wk_cF h1 ?_
  refine wk_s hR hC MM_val rfl rfl (KW_ok ?_)
  refine wk_s hR hC MM_val rfl rfl (KW_ok ?_)
  refine wk_s hR hC MM_val rfl rfl (KW_ok ?_)
  refine wk_s hR hC MM_val rfl rfl (KW_ok ?_)
  refine wk_s hR hC MM_val rfl rfl (KW_ok ?_)
  refine wk_s hR hC MM_val rfl rfl (KW_ok ?_)
  refine wk_s hR hC MM_val rfl rfl (KW_ok ?_)
  refine wk_s hR hC MM_val rfl rfl (KW_ok ?_)
  refine wk_s hR hC MM_val rfl rfl (KW_ok ?_)
  refine wk_s hR hC MM_val rfl rfl (KW_ok ?_)
  refine wk_ll (li := im_nam) hR hC MM_val rfl rfl h2 ?_
  refine wk_ls (li := N) (i := 15 * 0 + Int32.ofNat n) (v := im_nam.getD n 0) hR hC MM_val rfl rfl h3 ?_
  refine wk_s hR hC MM_val rfl rfl (KW_ok ?_)
  refine wk_s hR hC MM_val rfl rfl (KW_ok ?_)
  refine wk_eq (congrArg (fun v => [(2, Value.int v), (0, Value.ref 180), (1, Value.int 0)]) (i_s1 n)) ?_ w
  rw [h4]
  exact im_set2 _ _ _ _
theorem im_b0l {p : Program} {l : Launch} {e : Env} {s : State} {m : MethodId} {args : Array Value} {below : List Frame} {meth : Method} {c : Code} {Q : State → Prop} {b : Nat} {en ac : Nat → Nat} {D : va_G} {d : Nat} (hC : ev_C p s m args meth c b en ac D MM 121) : ∀ (r n : Nat) (K : List Int32) (N : List Int64), n + r = 15 → N.length = 30 → Wk p l e (ev_rm MM (d + 1) 121) s m args below meth c b en ac D MM 121 Q 51 [(2, .int (Int32.ofNat 15)), (0, .ref 180), (1, .int 0)] [] (imH0 K (imN 0 r n N)) 0 0 → Wk p l e (ev_rm MM (d + 1) 121) s m args below meth c b en ac D MM 121 Q 51 [(2, .int (Int32.ofNat n)), (0, .ref 180), (1, .int 0)] [] (imH0 K N) 0 0 := by
  intro r
  induction r with
  | zero =>
    intro n K N h hK w
    have h1 : n = 15 := by omega
    rw [h1]; exact w
  | succ r ih =>
    intro n K N h hK w
    refine im_b0 hC n (by omega) K N hK ?_
    refine ih (n + 1) _ _ (by omega) (by rw [List.length_set]; exact hK) ?_
    exact w
def hm_image_0 : List AE := (imH0 (imK 0 396 0 (List.replicate 792 0)) (imN 0 15 0 (List.replicate 30 0))).set 190 (.inl (3, .inl [1, 0]))
set_option maxRecDepth 100000 in
set_option maxHeartbeats 4000000 in
theorem cm_image_0 (l : Launch) (b : Nat) (en ac : Nat → Nat) (D : va_G) (d : Nat) : ev_M l b en ac D MM (d + 2) 121 [.ref 180, .int 0] hc_image_0 (some (.int 1), hm_image_0) := by
  refine ev_mk (by decide +kernel) (Nat.le_of_ble_eq_true rfl) (fun p e s m args below meth c hC => ?_)
  have hR := ev_rmR MM (d + 1) 121
  refine wk_s hR hC MM_val rfl rfl (KW_ok ?_)
  refine wk_s hR hC MM_val rfl rfl (KW_ok ?_)
  refine wk_s hR hC MM_val rfl rfl (KW_ok ?_)
  refine wk_heap (imH0 (List.replicate 792 0) (List.replicate 30 0)) (by decide +kernel) ?_
  refine wk_s hR hC MM_val rfl rfl (KW_ok ?_)
  refine wk_s hR hC MM_val rfl rfl (KW_ok ?_)
  refine wk_s hR hC MM_val rfl rfl (KW_ok ?_)
  refine wk_S (As := [.int 0, .int 0, .int 1]) (rest := []) hR hC MM_val rfl (by decide) (mi_yes l b en ac D d 0 0 1 (by decide +kernel) (by decide +kernel) _) rfl rfl (Nat.le_of_ble_eq_true rfl) ⟨Nat.le_refl _, Nat.le_refl _⟩ ?_
  simp only [Option.toList, List.cons_append, List.nil_append]
  refine wk_s hR hC MM_val rfl rfl (KW_ok ?_)
  refine wk_pF rfl ?_
  refine wk_s hR hC MM_val rfl rfl (KW_ok ?_)
  refine wk_s hR hC MM_val rfl rfl (KW_ok ?_)
  refine im_a0l hC 396 0 _ _ (by omega) List.length_replicate ?_
  refine wk_s hR hC MM_val rfl rfl (KW_ok ?_)
  refine wk_s hR hC MM_val rfl rfl (KW_ok ?_)
  refine wk_s hR hC MM_val rfl rfl (KW_ok ?_)
  refine wk_pT rfl ?_
  refine wk_s hR hC MM_val rfl rfl (KW_ok ?_)
  refine wk_s hR hC MM_val rfl rfl (KW_ok ?_)
  refine im_b0l hC 15 0 _ _ (by omega) List.length_replicate ?_
  refine wk_s hR hC MM_val rfl rfl (KW_ok ?_)
  refine wk_s hR hC MM_val rfl rfl (KW_ok ?_)
  refine wk_s hR hC MM_val rfl rfl (KW_ok ?_)
  refine wk_pT rfl ?_
  refine wk_s hR hC MM_val rfl rfl (KW_ok ?_)
  refine wk_s hR hC MM_val rfl rfl (KW_ok ?_)
  refine wk_s hR hC MM_val rfl rfl (KW_ok ?_)
  refine wk_s hR hC MM_val rfl rfl (KW_ok ?_)
  refine wk_s hR hC MM_val rfl rfl (KW_ok ?_)
  refine wk_s hR hC MM_val rfl rfl (KW_ok ?_)
  exact wk_r hR hC MM_val rfl rfl rfl
def imH1 (K : List Int32) (N : List Int64) : List AE := (hc_image_1.set 184 (.inl (1, .inl K))).set 189 (.inl (2, .inr (.inl N)))
set_option maxRecDepth 100000 in
set_option maxHeartbeats 4000000 in
theorem im_a1 {p : Program} {l : Launch} {e : Env} {s : State} {m : MethodId} {args : Array Value} {below : List Frame} {meth : Method} {c : Code} {Q : State → Prop} {b : Nat} {en ac : Nat → Nat} {D : va_G} {d : Nat} (hC : ev_C p s m args meth c b en ac D MM 121) (n : Nat) (hn : n < 396) (K : List Int32) (N : List Int64) (hK : K.length = 792) (w : Wk p l e (ev_rm MM (d + 1) 121) s m args below meth c b en ac D MM 121 Q 18 [(2, .int (Int32.ofNat (n + 1))), (0, .ref 180), (1, .int 1)] [] (imH1 (K.set (396 + n) (im_now.getD n 0)) N) 0 0) : Wk p l e (ev_rm MM (d + 1) 121) s m args below meth c b en ac D MM 121 Q 18 [(2, .int (Int32.ofNat n)), (0, .ref 180), (1, .int 1)] [] (imH1 K N) 0 0 := by
  have hR := ev_rmR MM d 121
  have h1 : ¬ (396 : Int32) ≤ Int32.ofNat n := i_le 396 n (by omega) (by omega) hn
  have h2 : ev_rd im_now (Int32.ofNat n) = some (im_now.getD n 0) := ev_rd_gd im_now 0 n (by omega) (by rw [im_now_n]; exact hn)
  have h5 : (396 * 1 + Int32.ofNat n : Int32) = Int32.ofNat (396 + n) := (Int32.ofNat_add 396 n).symm
  have h3 : ev_rd K (396 * 1 + Int32.ofNat n) = some (K.getD (396 + n) 0) := by rw [h5]; exact ev_rd_gd K 0 (396 + n) (by omega) (by omega)
  have h4 : (396 * 1 + Int32.ofNat n : Int32).toNatClampNeg = 396 + n := by rw [h5]; exact i_cl _ (by omega)
  refine wk_s hR hC MM_val rfl rfl (KW_ok ?_)
  refine wk_s hR hC MM_val rfl rfl (KW_ok ?_)
  refine wk_s hR hC MM_val rfl rfl (KW_ok ?_)
  refine wk_cF h1 ?_
  refine wk_s hR hC MM_val rfl rfl (KW_ok ?_)
  refine wk_s hR hC MM_val rfl rfl (KW_ok ?_)
  refine wk_s hR hC MM_val rfl rfl (KW_ok ?_)
  refine wk_s hR hC MM_val rfl rfl (KW_ok ?_)
  refine wk_s hR hC MM_val rfl rfl (KW_ok ?_)
  refine wk_s hR hC MM_val rfl rfl (KW_ok ?_)
  refine wk_s hR hC MM_val rfl rfl (KW_ok ?_)
  refine wk_s hR hC MM_val rfl rfl (KW_ok ?_)
  refine wk_s hR hC MM_val rfl rfl (KW_ok ?_)
  refine wk_s hR hC MM_val rfl rfl (KW_ok ?_)
  refine wk_ld (li := im_now) hR hC MM_val rfl rfl h2 ?_
  refine wk_is (li := K) (i := 396 * 1 + Int32.ofNat n) (v := im_now.getD n 0) hR hC MM_val rfl rfl h3 ?_
  refine wk_s hR hC MM_val rfl rfl (KW_ok ?_)
  refine wk_s hR hC MM_val rfl rfl (KW_ok ?_)
  refine wk_eq (congrArg (fun v => [(2, Value.int v), (0, Value.ref 180), (1, Value.int 1)]) (i_s1 n)) ?_ w
  rw [h4]
  exact im_set _ _ _ _
theorem im_a1l {p : Program} {l : Launch} {e : Env} {s : State} {m : MethodId} {args : Array Value} {below : List Frame} {meth : Method} {c : Code} {Q : State → Prop} {b : Nat} {en ac : Nat → Nat} {D : va_G} {d : Nat} (hC : ev_C p s m args meth c b en ac D MM 121) : ∀ (r n : Nat) (K : List Int32) (N : List Int64), n + r = 396 → K.length = 792 → Wk p l e (ev_rm MM (d + 1) 121) s m args below meth c b en ac D MM 121 Q 18 [(2, .int (Int32.ofNat 396)), (0, .ref 180), (1, .int 1)] [] (imH1 (imK 396 r n K) N) 0 0 → Wk p l e (ev_rm MM (d + 1) 121) s m args below meth c b en ac D MM 121 Q 18 [(2, .int (Int32.ofNat n)), (0, .ref 180), (1, .int 1)] [] (imH1 K N) 0 0 := by
  intro r
  induction r with
  | zero =>
    intro n K N h hK w
    have h1 : n = 396 := by omega
    rw [h1]; exact w
  | succ r ih =>
    intro n K N h hK w
    refine im_a1 hC n (by omega) K N hK ?_
    refine ih (n + 1) _ _ (by omega) (by rw [List.length_set]; exact hK) ?_
    exact w
set_option maxRecDepth 100000 in
set_option maxHeartbeats 4000000 in
theorem im_b1 {p : Program} {l : Launch} {e : Env} {s : State} {m : MethodId} {args : Array Value} {below : List Frame} {meth : Method} {c : Code} {Q : State → Prop} {b : Nat} {en ac : Nat → Nat} {D : va_G} {d : Nat} (hC : ev_C p s m args meth c b en ac D MM 121) (n : Nat) (hn : n < 15) (K : List Int32) (N : List Int64) (hK : N.length = 30) (w : Wk p l e (ev_rm MM (d + 1) 121) s m args below meth c b en ac D MM 121 Q 51 [(2, .int (Int32.ofNat (n + 1))), (0, .ref 180), (1, .int 1)] [] (imH1 K (N.set (15 + n) (im_nam.getD n 0))) 0 0) : Wk p l e (ev_rm MM (d + 1) 121) s m args below meth c b en ac D MM 121 Q 51 [(2, .int (Int32.ofNat n)), (0, .ref 180), (1, .int 1)] [] (imH1 K N) 0 0 := by
  have hR := ev_rmR MM d 121
  have h1 : ¬ (15 : Int32) ≤ Int32.ofNat n := i_le 15 n (by omega) (by omega) hn
  have h2 : ev_rd im_nam (Int32.ofNat n) = some (im_nam.getD n 0) := ev_rd_gd im_nam 0 n (by omega) (by exact hn)
  have h5 : (15 * 1 + Int32.ofNat n : Int32) = Int32.ofNat (15 + n) := (Int32.ofNat_add 15 n).symm
  have h3 : ev_rd N (15 * 1 + Int32.ofNat n) = some (N.getD (15 + n) 0) := by rw [h5]; exact ev_rd_gd N 0 (15 + n) (by omega) (by omega)
  have h4 : (15 * 1 + Int32.ofNat n : Int32).toNatClampNeg = 15 + n := by rw [h5]; exact i_cl _ (by omega)
  refine wk_s hR hC MM_val rfl rfl (KW_ok ?_)
  refine wk_s hR hC MM_val rfl rfl (KW_ok ?_)
  refine wk_s hR hC MM_val rfl rfl (KW_ok ?_)
  refine wk_cF h1 ?_
  refine wk_s hR hC MM_val rfl rfl (KW_ok ?_)
  refine wk_s hR hC MM_val rfl rfl (KW_ok ?_)
  refine wk_s hR hC MM_val rfl rfl (KW_ok ?_)
  refine wk_s hR hC MM_val rfl rfl (KW_ok ?_)
  refine wk_s hR hC MM_val rfl rfl (KW_ok ?_)
  refine wk_s hR hC MM_val rfl rfl (KW_ok ?_)
  refine wk_s hR hC MM_val rfl rfl (KW_ok ?_)
  refine wk_s hR hC MM_val rfl rfl (KW_ok ?_)
  refine wk_s hR hC MM_val rfl rfl (KW_ok ?_)
  refine wk_s hR hC MM_val rfl rfl (KW_ok ?_)
  refine wk_ll (li := im_nam) hR hC MM_val rfl rfl h2 ?_
  refine wk_ls (li := N) (i := 15 * 1 + Int32.ofNat n) (v := im_nam.getD n 0) hR hC MM_val rfl rfl h3 ?_
  refine wk_s hR hC MM_val rfl rfl (KW_ok ?_)
  refine wk_s hR hC MM_val rfl rfl (KW_ok ?_)
  refine wk_eq (congrArg (fun v => [(2, Value.int v), (0, Value.ref 180), (1, Value.int 1)]) (i_s1 n)) ?_ w
  rw [h4]
  exact im_set2 _ _ _ _
theorem im_b1l {p : Program} {l : Launch} {e : Env} {s : State} {m : MethodId} {args : Array Value} {below : List Frame} {meth : Method} {c : Code} {Q : State → Prop} {b : Nat} {en ac : Nat → Nat} {D : va_G} {d : Nat} (hC : ev_C p s m args meth c b en ac D MM 121) : ∀ (r n : Nat) (K : List Int32) (N : List Int64), n + r = 15 → N.length = 30 → Wk p l e (ev_rm MM (d + 1) 121) s m args below meth c b en ac D MM 121 Q 51 [(2, .int (Int32.ofNat 15)), (0, .ref 180), (1, .int 1)] [] (imH1 K (imN 15 r n N)) 0 0 → Wk p l e (ev_rm MM (d + 1) 121) s m args below meth c b en ac D MM 121 Q 51 [(2, .int (Int32.ofNat n)), (0, .ref 180), (1, .int 1)] [] (imH1 K N) 0 0 := by
  intro r
  induction r with
  | zero =>
    intro n K N h hK w
    have h1 : n = 15 := by omega
    rw [h1]; exact w
  | succ r ih =>
    intro n K N h hK w
    refine im_b1 hC n (by omega) K N hK ?_
    refine ih (n + 1) _ _ (by omega) (by rw [List.length_set]; exact hK) ?_
    exact w
def hm_image_1 : List AE := (imH1 (imK 396 396 0 (List.replicate 792 0)) (imN 15 15 0 (List.replicate 30 0))).set 190 (.inl (3, .inl [0, 1]))
set_option maxRecDepth 100000 in
set_option maxHeartbeats 4000000 in
theorem cm_image_1 (l : Launch) (b : Nat) (en ac : Nat → Nat) (D : va_G) (d : Nat) : ev_M l b en ac D MM (d + 2) 121 [.ref 180, .int 1] hc_image_1 (some (.int 1), hm_image_1) := by
  refine ev_mk (by decide +kernel) (Nat.le_of_ble_eq_true rfl) (fun p e s m args below meth c hC => ?_)
  have hR := ev_rmR MM (d + 1) 121
  refine wk_s hR hC MM_val rfl rfl (KW_ok ?_)
  refine wk_s hR hC MM_val rfl rfl (KW_ok ?_)
  refine wk_s hR hC MM_val rfl rfl (KW_ok ?_)
  refine wk_heap (imH1 (List.replicate 792 0) (List.replicate 30 0)) (by decide +kernel) ?_
  refine wk_s hR hC MM_val rfl rfl (KW_ok ?_)
  refine wk_s hR hC MM_val rfl rfl (KW_ok ?_)
  refine wk_s hR hC MM_val rfl rfl (KW_ok ?_)
  refine wk_S (As := [.int 1, .int 0, .int 1]) (rest := []) hR hC MM_val rfl (by decide) (mi_yes l b en ac D d 1 0 1 (by decide +kernel) (by decide +kernel) _) rfl rfl (Nat.le_of_ble_eq_true rfl) ⟨Nat.le_refl _, Nat.le_refl _⟩ ?_
  simp only [Option.toList, List.cons_append, List.nil_append]
  refine wk_s hR hC MM_val rfl rfl (KW_ok ?_)
  refine wk_pF rfl ?_
  refine wk_s hR hC MM_val rfl rfl (KW_ok ?_)
  refine wk_s hR hC MM_val rfl rfl (KW_ok ?_)
  refine im_a1l hC 396 0 _ _ (by omega) List.length_replicate ?_
  refine wk_s hR hC MM_val rfl rfl (KW_ok ?_)
  refine wk_s hR hC MM_val rfl rfl (KW_ok ?_)
  refine wk_s hR hC MM_val rfl rfl (KW_ok ?_)
  refine wk_pT rfl ?_
  refine wk_s hR hC MM_val rfl rfl (KW_ok ?_)
  refine wk_s hR hC MM_val rfl rfl (KW_ok ?_)
  refine im_b1l hC 15 0 _ _ (by omega) List.length_replicate ?_
  refine wk_s hR hC MM_val rfl rfl (KW_ok ?_)
  refine wk_s hR hC MM_val rfl rfl (KW_ok ?_)
  refine wk_s hR hC MM_val rfl rfl (KW_ok ?_)
  refine wk_pT rfl ?_
  refine wk_s hR hC MM_val rfl rfl (KW_ok ?_)
  refine wk_s hR hC MM_val rfl rfl (KW_ok ?_)
  refine wk_s hR hC MM_val rfl rfl (KW_ok ?_)
  refine wk_s hR hC MM_val rfl rfl (KW_ok ?_)
  refine wk_s hR hC MM_val rfl rfl (KW_ok ?_)
  refine wk_s hR hC MM_val rfl rfl (KW_ok ?_)
  exact wk_r hR hC MM_val rfl rfl rfl
