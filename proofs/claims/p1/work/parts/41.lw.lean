/-! ===== rows of the law ===== -/
abbrev LK (p : Program) (l : Launch) (e : Env) (s : State) (m : MethodId) (below : List Frame) (meth : Method) (c : Code) (en ac : Nat → Nat) (D : va_G) (b0 : Nat) : Nat → List (Nat × Value) → List Value → List AE → Nat → Nat → Prop := Wk p l e room_1 s m #[Value.ref b0] below meth c s.heap.size en ac D MM 161 (lw_Z below #[Value.ref b0] s)
theorem lw_hR : 9 + 1 ≤ room_1.frames ∧ 64 * (9 + 1) ≤ room_1.locals ∧ mC MM 161 ≤ room_1.cells ∧ mS MM 161 ≤ room_1.slots := by decide +kernel
theorem wk_L {p : Program} {l : Launch} {e : Env} {R : Room} {s : State} {m : MethodId} {args : Array Value} {below : List Frame} {meth : Method} {c : Code} {Q : State → Prop} {b : Nat} {en ac : Nat → Nat} {D : va_G} {M : MT} {mi pc k ks : Nat} {L : List (Nat × Value)} {st : List Value} {hp : List AE} (L' : List (Nat × Value)) (h : L'.all (fun q => L.any (fun r => decide (r = q))) = true) (w : Wk p l e R s m args below meth c b en ac D M mi Q pc L' st hp k ks) : Wk p l e R s m args below meth c b en ac D M mi Q pc L st hp k ks := by
  intro H locs ls w0 hl
  refine w H locs ls w0 ⟨hl.1, hl.2.1, fun q hq => ?_⟩
  obtain ⟨q0, hq0, rfl⟩ := List.mem_map.mp hq
  obtain ⟨r, hr, he⟩ := List.any_eq_true.mp (List.all_eq_true.mp h q0 hq0)
  have he2 := of_decide_eq_true he
  subst he2
  exact hl.2.2 _ (List.mem_map.mpr ⟨r, hr, rfl⟩)
theorem lw_sl {p : Program} {l : Launch} {e : Env} {s : State} {m : MethodId} {below : List Frame} {meth : Method} {c : Code} {en ac : Nat → Nat} {D : va_G} {b0 : Nat} {Ln pc x y k ks : Nat} {xs : Nat → Int32} {i : Int32} {L : List (Nat × Value)} {st : List Value} {hp : List AE} (hC : ev_C p s m #[Value.ref b0] meth c s.heap.size en ac D MM 161) (hX : va_X b0 Ln xs s s.heap) (hbl : b0 < s.heap.size) (hen : en 200 = b0) (hf : mF MM 161 pc = some (.iaload, x, y)) (hin : vp_in i Ln) (w : LK p l e s m below meth c en ac D b0 (pc + 1) L (.int (xs i.toNatClampNeg) :: st) hp k ks) : LK p l e s m below meth c en ac D b0 pc L (.int i :: .retAddr 200 :: st) hp k ks := by
  intro H locs ls w0 hl
  subst hen
  exact va_sld hC.1 hC.2.1 hX hbl (Nat.not_le.mpr hbl) w0.2.1 hin (MM_val 161 pc _ x y hf).1 (w _ _ _ w0 hl)
theorem lw_sn {p : Program} {l : Launch} {e : Env} {s : State} {m : MethodId} {below : List Frame} {meth : Method} {c : Code} {en ac : Nat → Nat} {D : va_G} {b0 : Nat} {Ln pc x y k ks : Nat} {xs : Nat → Int32} {L : List (Nat × Value)} {st : List Value} {hp : List AE} (hC : ev_C p s m #[Value.ref b0] meth c s.heap.size en ac D MM 161) (hX : va_X b0 Ln xs s s.heap) (hbl : b0 < s.heap.size) (hen : en 200 = b0) (hf : mF MM 161 pc = some (.arraylength, x, y)) (w : LK p l e s m below meth c en ac D b0 (pc + 1) L (.int (Int32.ofNat Ln) :: st) hp k ks) : LK p l e s m below meth c en ac D b0 pc L (.retAddr 200 :: st) hp k ks := by
  intro H locs ls w0 hl
  subst hen
  exact va_slen hC.1 hC.2.1 hX hbl (Nat.not_le.mpr hbl) w0.2.1 (MM_val 161 pc _ x y hf).1 (w _ _ _ w0 hl)
theorem lw_rt {p : Program} {l : Launch} {e : Env} {s : State} {m : MethodId} {below : List Frame} {meth : Method} {c : Code} {en ac : Nat → Nat} {D : va_G} {b0 : Nat} {pc x y k ks : Nat} {L : List (Nat × Value)} {hp : List AE} (hC : ev_C p s m #[Value.ref b0] meth c s.heap.size en ac D MM 161) (hf : mF MM 161 pc = some (.ireturn, x, y)) (hk : k ≤ 600002) (hks : ks ≤ 7302232) : LK p l e s m below meth c en ac D b0 pc L [.int 1] hp k ks := by
  intro H locs ls w0 hl
  refine va_forget (fun q hq => w0.2.1.2.2 q hq) ?_
  refine W.widen (k := 600002) (n := 7302232) hk hks ?_
  exact lw_ret hC.1 hC.2.1 hC.2.2.2.2.2.2.2.2.2.1 hC.2.2.2.2.2.2.2.2.1 (MM_val 161 pc _ x y hf).1
set_option maxRecDepth 100000 in
set_option maxHeartbeats 4000000 in
theorem lw_ex {p : Program} {l : Launch} {e : Env} {s : State} {m : MethodId} {below : List Frame} {meth : Method} {c : Code} {en ac : Nat → Nat} {D : va_G} {b0 : Nat} {Ln k ks : Nat} {xs : Nat → Int32} {i : Int32} {hp : List AE} (hC : ev_C p s m #[Value.ref b0] meth c s.heap.size en ac D MM 161) (hX : va_X b0 Ln xs s s.heap) (hbl : b0 < s.heap.size) (hen : en 200 = b0) (hi : Int32.ofNat Ln - 6 < i) (hk : k ≤ 600002) (hks : ks ≤ 7302232) : LK p l e s m below meth c en ac D b0 23 [(4, .int i), (3, .ref 203), (2, .ref 180), (1, .ref 0), (0, .retAddr 200)] [] hp k ks := by
  have hR := lw_hR
  repeat (refine wk_s hR hC MM_val rfl rfl (KW_ok ?_); try dsimp only)
  refine lw_sn hC hX hbl hen rfl ?_
  repeat (refine wk_s hR hC MM_val rfl rfl (KW_ok ?_); try dsimp only)
  refine wk_cT hi ?_
  repeat (refine wk_s hR hC MM_val rfl rfl (KW_ok ?_); try dsimp only)
  exact lw_rt hC rfl hk hks
set_option maxRecDepth 100000 in
set_option maxHeartbeats 4000000 in
theorem lw_fin {p : Program} {l : Launch} {e : Env} {s : State} {m : MethodId} {below : List Frame} {meth : Method} {c : Code} {en ac : Nat → Nat} {D : va_G} {b0 : Nat} {k ks : Nat} {xs : Nat → Int32} {hp : List AE} (hC : ev_C p s m #[Value.ref b0] meth c s.heap.size en ac D MM 161) (hX : va_X b0 6 xs s s.heap) (hbl : b0 < s.heap.size) (hen : en 200 = b0) (hk : k ≤ 600002) (hks : ks ≤ 7302232) : LK p l e s m below meth c en ac D b0 1278 [(4, .int 0), (3, .ref 203), (2, .ref 180), (1, .ref 0), (0, .retAddr 200)] [] hp k ks := by
  have hR := lw_hR
  refine wk_s hR hC MM_val rfl rfl (KW_ok ?_)
  refine wk_s hR hC MM_val rfl rfl (KW_ok ?_)
  refine wk_L [(4, .int 6), (3, .ref 203), (2, .ref 180), (1, .ref 0), (0, .retAddr 200)] (by decide +kernel) ?_
  exact lw_ex hC hX hbl hen (by decide +kernel) hk hks
