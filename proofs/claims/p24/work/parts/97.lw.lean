/-! ===== rows of the law ===== -/
abbrev LK (p : Program) (l : Launch) (e : Env) (s : State) (m : MethodId) (below : List Frame) (meth : Method) (c : Code) (en ac : Nat → Nat) (D : va_G) (b0 : Nat) : Nat → List (Nat × Value) → List Value → List AE → Nat → Nat → Prop := Wk p l e room_1 s m #[Value.ref b0] below meth c s.heap.size en ac D MM 300 (lw_Z below #[Value.ref b0] s)
theorem lw_hR : 100 + 4 ≤ room_1.frames ∧ 64 * (100 + 1) + 256 ≤ room_1.locals ∧ mC MM 300 ≤ room_1.cells ∧ mS MM 300 ≤ room_1.slots := by decide +kernel
theorem wk_L {p : Program} {l : Launch} {e : Env} {R : Room} {s : State} {m : MethodId} {args : Array Value} {below : List Frame} {meth : Method} {c : Code} {Q : State → Prop} {b : Nat} {en ac : Nat → Nat} {D : va_G} {M : MT} {mi pc k ks : Nat} {L : List (Nat × Value)} {st : List Value} {hp : List AE} (L' : List (Nat × Value)) (h : L'.all (fun q => L.any (fun r => decide (r = q))) = true) (w : Wk p l e R s m args below meth c b en ac D M mi Q pc L' st hp k ks) : Wk p l e R s m args below meth c b en ac D M mi Q pc L st hp k ks := by
  intro H locs ls w0 hl
  refine w H locs ls w0 ⟨hl.1, hl.2.1, fun q hq => ?_⟩
  obtain ⟨q0, hq0, rfl⟩ := List.mem_map.mp hq
  obtain ⟨r, hr, he⟩ := List.any_eq_true.mp (List.all_eq_true.mp h q0 hq0)
  have he2 := of_decide_eq_true he
  subst he2
  exact hl.2.2 _ (List.mem_map.mpr ⟨r, hr, rfl⟩)
theorem lw_sl {p : Program} {l : Launch} {e : Env} {s : State} {m : MethodId} {below : List Frame} {meth : Method} {c : Code} {en ac : Nat → Nat} {D : va_G} {b0 : Nat} {Ln pc x y k ks : Nat} {xs : Nat → Int32} {i : Int32} {L : List (Nat × Value)} {st : List Value} {hp : List AE} (hC : ex_C p s m #[Value.ref b0] meth c s.heap.size en ac D MM 300) (hX : va_X b0 Ln xs s s.heap) (hbl : b0 < s.heap.size) (hen : en 200 = b0) (hf : mF MM 300 pc = some (.iaload, x, y)) (hin : vp_in i Ln) (w : LK p l e s m below meth c en ac D b0 (pc + 1) L (.int (xs i.toNatClampNeg) :: st) hp k ks) : LK p l e s m below meth c en ac D b0 pc L (.int i :: .retAddr 200 :: st) hp k ks := by
  intro H locs ls w0 hl
  subst hen
  exact va_sld hC.1 hC.2.1 hX hbl (Nat.not_le.mpr hbl) w0.2.1 hin (MM_val 300 pc _ x y hf).1 (w _ _ _ w0 hl)
theorem lw_sn {p : Program} {l : Launch} {e : Env} {s : State} {m : MethodId} {below : List Frame} {meth : Method} {c : Code} {en ac : Nat → Nat} {D : va_G} {b0 : Nat} {Ln pc x y k ks : Nat} {xs : Nat → Int32} {L : List (Nat × Value)} {st : List Value} {hp : List AE} (hC : ex_C p s m #[Value.ref b0] meth c s.heap.size en ac D MM 300) (hX : va_X b0 Ln xs s s.heap) (hbl : b0 < s.heap.size) (hen : en 200 = b0) (hf : mF MM 300 pc = some (.arraylength, x, y)) (w : LK p l e s m below meth c en ac D b0 (pc + 1) L (.int (Int32.ofNat Ln) :: st) hp k ks) : LK p l e s m below meth c en ac D b0 pc L (.retAddr 200 :: st) hp k ks := by
  intro H locs ls w0 hl
  subst hen
  exact va_slen hC.1 hC.2.1 hX hbl (Nat.not_le.mpr hbl) w0.2.1 (MM_val 300 pc _ x y hf).1 (w _ _ _ w0 hl)
theorem lw_rt {p : Program} {l : Launch} {e : Env} {s : State} {m : MethodId} {below : List Frame} {meth : Method} {c : Code} {en ac : Nat → Nat} {D : va_G} {b0 : Nat} {pc x y k ks : Nat} {L : List (Nat × Value)} {hp : List AE} (hC : ex_C p s m #[Value.ref b0] meth c s.heap.size en ac D MM 300) (hf : mF MM 300 pc = some (.ireturn, x, y)) (hk : k ≤ 601024) (hks : ks ≤ 7293034) : LK p l e s m below meth c en ac D b0 pc L [.int 1] hp k ks := by
  intro H locs ls w0 hl
  refine va_forget (fun q hq => w0.2.1.2.2 q hq) ?_
  refine W.widen (k := 601024) (n := 7293034) hk hks ?_
  exact lw_ret hC.1 hC.2.1 hC.2.2.2.2.2.2.2.2.2.1 hC.2.2.2.2.2.2.2.2.1 (MM_val 300 pc _ x y hf).1
set_option maxRecDepth 100000 in
set_option maxHeartbeats 4000000 in
theorem lw_ex {p : Program} {l : Launch} {e : Env} {s : State} {m : MethodId} {below : List Frame} {meth : Method} {c : Code} {en ac : Nat → Nat} {D : va_G} {b0 : Nat} {Ln k ks : Nat} {xs : Nat → Int32} {i : Int32} {hp : List AE} (hC : ex_C p s m #[Value.ref b0] meth c s.heap.size en ac D MM 300) (hX : va_X b0 Ln xs s s.heap) (hbl : b0 < s.heap.size) (hen : en 200 = b0) (hi : Int32.ofNat Ln - 6 < i) (hk : k ≤ 601024) (hks : ks ≤ 7293034) : LK p l e s m below meth c en ac D b0 23 [(4, .int i), (3, .ref 203), (2, .ref 180), (1, .ref 0), (0, .retAddr 200)] [] hp k ks := by
  have hR := lw_hR
  repeat (refine wk_s hR hC MM_val rfl rfl (KW_ok ?_); try dsimp only)
  refine lw_sn hC hX hbl hen rfl ?_
  repeat (refine wk_s hR hC MM_val rfl rfl (KW_ok ?_); try dsimp only)
  refine wk_cT hi ?_
  repeat (refine wk_s hR hC MM_val rfl rfl (KW_ok ?_); try dsimp only)
  exact lw_rt hC rfl hk hks
theorem wk_tsO {p : Program} {l : Launch} {e : Env} {R : Room} {s : State} {m : MethodId} {args : Array Value} {below : List Frame} {meth : Method} {c : Code} {Q : State → Prop} {b : Nat} {en ac : Nat → Nat} {D : va_G} {M : MT} {mi d pc k ks x y t : Nat} {L : List (Nat × Value)} {st : List Value} {hp : List AE} {dflt lo hi : Int} {offs : Array Int} {v : Int32} (hR : d + 4 ≤ R.frames ∧ 64 * (d + 1) + 256 ≤ R.locals ∧ mC M mi ≤ R.cells ∧ mS M mi ≤ R.slots) (hC : ex_C p s m args meth c b en ac D M mi) (hval : ev_val M) (hf : mF M mi pc = some (.tableswitch dflt lo hi offs, x, y)) (hh : v.toInt < lo ∨ hi < v.toInt) (ht : ev_tg pc dflt = some t) (w : Wk p l e R s m args below meth c b en ac D M mi Q t L st hp k ks) : Wk p l e R s m args below meth c b en ac D M mi Q pc L (.int v :: st) hp k ks := by
  refine wk_s hR hC hval hf rfl ?_
  show (if v.toInt < lo ∨ hi < v.toInt then (ev_tg pc dflt).bind (fun t => KW _ _ t L st hp k ks) else _) = _
  rw [if_pos hh, ht]
  exact KW_ok w
theorem wk_st {p : Program} {l : Launch} {e : Env} {R : Room} {s : State} {m : MethodId} {args : Array Value} {below : List Frame} {meth : Method} {c : Code} {Q : State → Prop} {b : Nat} {en ac : Nat → Nat} {D : va_G} {M : MT} {mi pc k ks : Nat} {L : List (Nat × Value)} {st : List Value} {hp : List AE} (st' : List Value) (h : st = st') (w : Wk p l e R s m args below meth c b en ac D M mi Q pc L st' hp k ks) : Wk p l e R s m args below meth c b en ac D M mi Q pc L st hp k ks := by
  rw [h]; exact w
theorem lw_a1 (n : Nat) : Int32.ofNat n + Int32.ofInt 1 = nI (n + 1) := by
  rw [show Int32.ofInt 1 = Int32.ofNat 1 from rfl, ← Int32.ofNat_add]; rfl
theorem lw_b1 {n Ln : Nat} (h : n + 6 ≤ Ln) : n + 1 < Ln := by omega
theorem lw_a2 (n : Nat) : Int32.ofNat n + Int32.ofInt 2 = nI (n + 2) := by
  rw [show Int32.ofInt 2 = Int32.ofNat 2 from rfl, ← Int32.ofNat_add]; rfl
theorem lw_b2 {n Ln : Nat} (h : n + 6 ≤ Ln) : n + 2 < Ln := by omega
theorem lw_a3 (n : Nat) : Int32.ofNat n + Int32.ofInt 3 = nI (n + 3) := by
  rw [show Int32.ofInt 3 = Int32.ofNat 3 from rfl, ← Int32.ofNat_add]; rfl
theorem lw_b3 {n Ln : Nat} (h : n + 6 ≤ Ln) : n + 3 < Ln := by omega
theorem lw_a4 (n : Nat) : Int32.ofNat n + Int32.ofInt 4 = nI (n + 4) := by
  rw [show Int32.ofInt 4 = Int32.ofNat 4 from rfl, ← Int32.ofNat_add]; rfl
theorem lw_b4 {n Ln : Nat} (h : n + 6 ≤ Ln) : n + 4 < Ln := by omega
theorem lw_a5 (n : Nat) : Int32.ofNat n + Int32.ofInt 5 = nI (n + 5) := by
  rw [show Int32.ofInt 5 = Int32.ofNat 5 from rfl, ← Int32.ofNat_add]; rfl
theorem lw_b5 {n Ln : Nat} (h : n + 6 ≤ Ln) : n + 5 < Ln := by omega
theorem lw_b0 {n Ln : Nat} (h : n + 6 ≤ Ln) : n < Ln := by omega
theorem lw_a6 (n : Nat) : Int32.ofNat n + Int32.ofInt 6 = Int32.ofNat (n + 6) := by
  rw [show Int32.ofInt 6 = Int32.ofNat 6 from rfl, ← Int32.ofNat_add]
theorem lw_mem (v w x y z : Value) : ([(4, v), (3, w), (2, x), (1, y), (0, z)] : List (Nat × Value)).all (fun q => ((4, v) :: ([(3, w), (2, x), (1, y), (0, z)] : List (Nat × Value))).any (fun r => decide (r = q))) = true := by
  simp
theorem lw_sl2 {p : Program} {l : Launch} {e : Env} {s : State} {m : MethodId} {below : List Frame} {meth : Method} {c : Code} {en ac : Nat → Nat} {D : va_G} {b0 : Nat} {Ln pc x y k ks : Nat} {xs : Nat → Int32} {i : Int32} {L : List (Nat × Value)} {st : List Value} {hp : List AE} (hC : ex_C p s m #[Value.ref b0] meth c s.heap.size en ac D MM 300) (hX : va_X b0 Ln xs s s.heap) (hbl : b0 < s.heap.size) (hen : en 200 = b0) (hf : mF MM 300 pc = some (.iaload, x, y)) {j : Nat} (hi : i = nI j) (hj : j < Ln) (hL : Ln ≤ 3072) (w : LK p l e s m below meth c en ac D b0 (pc + 1) L (.int (xs j) :: st) hp k ks) : LK p l e s m below meth c en ac D b0 pc L (.int i :: .retAddr 200 :: st) hp k ks := by
  subst hi
  have hc : (nI j).toNatClampNeg = j := nI_clamp (Nat.lt_of_lt_of_le hj (Nat.le_trans hL (by decide)))
  refine lw_sl hC hX hbl hen hf ?_ (by rw [hc]; exact w)
  unfold vp_in
  rw [hc]
  exact fun h => h.elim (nI_pos (Nat.lt_of_lt_of_le hj (Nat.le_trans hL (by decide)))) (fun h => Nat.lt_irrefl _ (Nat.lt_of_lt_of_le hj h))
set_option maxRecDepth 100000 in
set_option maxHeartbeats 4000000 in
theorem lw_inc {p : Program} {l : Launch} {e : Env} {s : State} {m : MethodId} {below : List Frame} {meth : Method} {c : Code} {en ac : Nat → Nat} {D : va_G} {b0 : Nat} {n k ks : Nat} {hp : List AE} (hC : ex_C p s m #[Value.ref b0] meth c s.heap.size en ac D MM 300) (w : LK p l e s m below meth c en ac D b0 23 [(4, .int (Int32.ofNat (n + 6))), (3, .ref 203), (2, .ref 180), (1, .ref 0), (0, .retAddr 200)] [] hp k ks) : LK p l e s m below meth c en ac D b0 1250 [(4, .int (Int32.ofNat n)), (3, .ref 203), (2, .ref 180), (1, .ref 0), (0, .retAddr 200)] [] hp k ks := by
  have hR := lw_hR
  refine wk_s hR hC MM_val rfl rfl (KW_ok ?_)
  refine wk_s hR hC MM_val rfl rfl (KW_ok ?_)
  rw [lw_a6 n]
  exact wk_L [(4, .int (Int32.ofNat (n + 6))), (3, .ref 203), (2, .ref 180), (1, .ref 0), (0, .retAddr 200)] (lw_mem _ _ _ _ _) w
