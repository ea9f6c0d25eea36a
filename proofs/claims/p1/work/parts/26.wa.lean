/-! ===== arrays at any place ===== -/
theorem i_nn (n : Nat) (h : n < 2147483648) : ¬ Int32.ofNat n < 0 := Int32.not_lt.mpr (Int32.zero_le_ofNat_of_lt (by omega))
theorem i_cl (n : Nat) (h : n < 2147483648) : (Int32.ofNat n).toNatClampNeg = n := Int32.toNatClampNeg_ofNat_of_lt (by omega)
theorem i_le (a n : Nat) (h : n < 2147483648) (ha : a < 2147483648) (hh : n < a) : ¬ Int32.ofNat a ≤ Int32.ofNat n := by
  rw [Int32.ofNat_le_iff_le (by omega) (by omega)]; omega
theorem ev_rd_on {α : Type} (li : List α) (n : Nat) (h : n < 2147483648) (hl : n < li.length) : ∃ v, ev_rd li (Int32.ofNat n) = some v := by
  refine ⟨li[n], ?_⟩
  unfold ev_rd
  rw [if_neg (i_nn n h), i_cl n h]
  exact List.getElem?_eq_getElem hl
theorem wk_ld {p : Program} {l : Launch} {e : Env} {R : Room} {s : State} {m : MethodId} {args : Array Value} {below : List Frame} {meth : Method} {c : Code} {Q : State → Prop} {b : Nat} {en ac : Nat → Nat} {D : va_G} {M : MT} {mi d pc x y a k ks : Nat} {L : List (Nat × Value)} {st : List Value} {hp : List AE} {li : List Int32} {i v : Int32} (hR : d + 1 ≤ R.frames ∧ 64 * (d + 1) ≤ R.locals ∧ mC M mi ≤ R.cells ∧ mS M mi ≤ R.slots) (hC : ev_C p s m args meth c b en ac D M mi) (hval : ev_val M) (hf : mF M mi pc = some (.iaload, x, y)) (ha : ev_ai hp a = some (1, li)) (hr : ev_rd li i = some v) (w : Wk p l e R s m args below meth c b en ac D M mi Q (pc + 1) L (.int v :: st) hp k ks) : Wk p l e R s m args below meth c b en ac D M mi Q pc L (.int i :: .ref a :: st) hp k ks := by
  refine wk_s hR hC hval hf rfl ?_
  show ((ev_ai hp a).bind (fun z => if z.1 = 1 then (ev_rd z.2 i).bind (fun v => KW _ _ (pc + 1) L (.int v :: st) hp k ks) else none)) = _
  rw [ha]
  show (if (1 : Nat) = 1 then (ev_rd li i).bind _ else none) = _
  rw [if_pos rfl, hr]
  exact KW_ok w
theorem wk_is {p : Program} {l : Launch} {e : Env} {R : Room} {s : State} {m : MethodId} {args : Array Value} {below : List Frame} {meth : Method} {c : Code} {Q : State → Prop} {b : Nat} {en ac : Nat → Nat} {D : va_G} {M : MT} {mi d pc x y a k ks : Nat} {L : List (Nat × Value)} {st : List Value} {hp : List AE} {li : List Int32} {i v u : Int32} (hR : d + 1 ≤ R.frames ∧ 64 * (d + 1) ≤ R.locals ∧ mC M mi ≤ R.cells ∧ mS M mi ≤ R.slots) (hC : ev_C p s m args meth c b en ac D M mi) (hval : ev_val M) (hf : mF M mi pc = some (.iastore, x, y)) (ha : ev_ai hp a = some (1, li)) (hr : ev_rd li i = some u) (w : Wk p l e R s m args below meth c b en ac D M mi Q (pc + 1) L st (hp.set a (.inl (1, .inl (li.set i.toNatClampNeg v)))) k ks) : Wk p l e R s m args below meth c b en ac D M mi Q pc L (.int v :: .int i :: .ref a :: st) hp k ks := by
  refine wk_s hR hC hval hf rfl ?_
  show ((ev_ai hp a).bind (fun z => if z.1 = 1 then (ev_rd z.2 i).bind (fun _ => KW _ _ (pc + 1) L st (hp.set a (.inl (1, .inl (z.2.set i.toNatClampNeg v)))) k ks) else none)) = _
  rw [ha]
  show (if (1 : Nat) = 1 then (ev_rd li i).bind _ else none) = _
  rw [if_pos rfl, hr]
  exact KW_ok w
theorem wk_ll {p : Program} {l : Launch} {e : Env} {R : Room} {s : State} {m : MethodId} {args : Array Value} {below : List Frame} {meth : Method} {c : Code} {Q : State → Prop} {b : Nat} {en ac : Nat → Nat} {D : va_G} {M : MT} {mi d pc x y a k ks : Nat} {L : List (Nat × Value)} {st : List Value} {hp : List AE} {li : List Int64} {i : Int32} {v : Int64} (hR : d + 1 ≤ R.frames ∧ 64 * (d + 1) ≤ R.locals ∧ mC M mi ≤ R.cells ∧ mS M mi ≤ R.slots) (hC : ev_C p s m args meth c b en ac D M mi) (hval : ev_val M) (hf : mF M mi pc = some (.laload, x, y)) (ha : ev_al hp a = some (2, li)) (hr : ev_rd li i = some v) (w : Wk p l e R s m args below meth c b en ac D M mi Q (pc + 1) L (.long v :: st) hp k ks) : Wk p l e R s m args below meth c b en ac D M mi Q pc L (.int i :: .ref a :: st) hp k ks := by
  refine wk_s hR hC hval hf rfl ?_
  show ((ev_al hp a).bind (fun z => if z.1 = 2 then (ev_rd z.2 i).bind (fun v => KW _ _ (pc + 1) L (.long v :: st) hp k ks) else none)) = _
  rw [ha]
  show (if (2 : Nat) = 2 then (ev_rd li i).bind _ else none) = _
  rw [if_pos rfl, hr]
  exact KW_ok w
theorem wk_ls {p : Program} {l : Launch} {e : Env} {R : Room} {s : State} {m : MethodId} {args : Array Value} {below : List Frame} {meth : Method} {c : Code} {Q : State → Prop} {b : Nat} {en ac : Nat → Nat} {D : va_G} {M : MT} {mi d pc x y a k ks : Nat} {L : List (Nat × Value)} {st : List Value} {hp : List AE} {li : List Int64} {i : Int32} {v u : Int64} (hR : d + 1 ≤ R.frames ∧ 64 * (d + 1) ≤ R.locals ∧ mC M mi ≤ R.cells ∧ mS M mi ≤ R.slots) (hC : ev_C p s m args meth c b en ac D M mi) (hval : ev_val M) (hf : mF M mi pc = some (.lastore, x, y)) (ha : ev_al hp a = some (2, li)) (hr : ev_rd li i = some u) (w : Wk p l e R s m args below meth c b en ac D M mi Q (pc + 1) L st (hp.set a (.inl (2, .inr (.inl (li.set i.toNatClampNeg v))))) k ks) : Wk p l e R s m args below meth c b en ac D M mi Q pc L (.long v :: .int i :: .ref a :: st) hp k ks := by
  refine wk_s hR hC hval hf rfl ?_
  show ((ev_al hp a).bind (fun z => if z.1 = 2 then (ev_rd z.2 i).bind (fun _ => KW _ _ (pc + 1) L st (hp.set a (.inl (2, .inr (.inl (z.2.set i.toNatClampNeg v))))) k ks) else none)) = _
  rw [ha]
  show (if (2 : Nat) = 2 then (ev_rd li i).bind _ else none) = _
  rw [if_pos rfl, hr]
  exact KW_ok w
theorem wk_bs {p : Program} {l : Launch} {e : Env} {R : Room} {s : State} {m : MethodId} {args : Array Value} {below : List Frame} {meth : Method} {c : Code} {Q : State → Prop} {b : Nat} {en ac : Nat → Nat} {D : va_G} {M : MT} {mi d pc x y a k ks : Nat} {L : List (Nat × Value)} {st : List Value} {hp : List AE} {li : List Int32} {i v u : Int32} (hR : d + 1 ≤ R.frames ∧ 64 * (d + 1) ≤ R.locals ∧ mC M mi ≤ R.cells ∧ mS M mi ≤ R.slots) (hC : ev_C p s m args meth c b en ac D M mi) (hval : ev_val M) (hf : mF M mi pc = some (.bastore, x, y)) (ha : ev_ai hp a = some (0, li)) (hr : ev_rd li i = some u) (w : Wk p l e R s m args below meth c b en ac D M mi Q (pc + 1) L st (hp.set a (.inl (0, .inl (li.set i.toNatClampNeg v.toInt8.toInt32)))) k ks) : Wk p l e R s m args below meth c b en ac D M mi Q pc L (.int v :: .int i :: .ref a :: st) hp k ks := by
  refine wk_s hR hC hval hf rfl ?_
  show ((ev_ai hp a).bind (fun z => (ev_rd z.2 i).bind (fun _ => if z.1 = 0 then KW _ _ (pc + 1) L st (hp.set a (.inl (0, .inl (z.2.set i.toNatClampNeg v.toInt8.toInt32)))) k ks else if z.1 = 3 ∧ (v = 0 ∨ v = 1) then KW _ _ (pc + 1) L st (hp.set a (.inl (3, .inl (z.2.set i.toNatClampNeg v)))) k ks else none))) = _
  rw [ha]
  show ((ev_rd li i).bind (fun _ => if (0 : Nat) = 0 then _ else _)) = _
  rw [hr, Option.bind_some, if_pos (rfl : (0 : Nat) = 0)]
  exact KW_ok w
