/-! ===== a BOOK's LINES, both at once ===== -/
abbrev QT : Type := Nat × List (Nat × Value) × List Value × List AE
/-- the run from here is the run from T on -/
def RQ (dd mi pc : Nat) (L : List (Nat × Value)) (st : List Value) (hp : List AE) (T : QT) : Prop := ∃ N k, ∀ n, N ≤ n → ∀ F, N ≤ F → ∀ d, dd ≤ d → ev_r MM (evF F MM d) mi (n + k) pc L st hp 0 0 = ev_r MM (evF F MM d) mi n T.1 T.2.1 T.2.2.1 T.2.2.2 0 0
theorem RQ_refl {dd mi pc : Nat} {L : List (Nat × Value)} {st : List Value} {hp : List AE} : RQ dd mi pc L st hp (pc, L, st, hp) := ⟨0, 0, fun _ _ _ _ _ _ => rfl⟩
theorem RQ_tr {dd mi pc : Nat} {L : List (Nat × Value)} {st : List Value} {hp : List AE} {T T2 : QT} (h : RQ dd mi pc L st hp T) (h2 : RQ dd mi T.1 T.2.1 T.2.2.1 T.2.2.2 T2) : RQ dd mi pc L st hp T2 := by
  obtain ⟨N, k, hN⟩ := h
  obtain ⟨N2, k2, hN2⟩ := h2
  refine ⟨N + N2, k2 + k, fun n hn F hF d hd => ?_⟩
  rw [← Nat.add_assoc, hN (n + k2) (by omega) F (by omega) d hd]
  exact hN2 n (by omega) F (by omega) d hd
theorem RT_of {dd mi pc : Nat} {L : List (Nat × Value)} {st : List Value} {hp : List AE} {T : QT} {q : ev_R} (h : RQ dd mi pc L st hp T) (h2 : RT MM dd mi T.1 T.2.1 T.2.2.1 T.2.2.2 q) : RT MM dd mi pc L st hp q := by
  obtain ⟨N, k, hN⟩ := h
  obtain ⟨N2, hN2⟩ := h2
  refine ⟨N + N2 + k, fun n hn F hF d hd => ?_⟩
  have e := hN (n - k) (by omega) F (by omega) d hd
  rw [show n - k + k = n by omega] at e
  rw [e]
  exact hN2 (n - k) (by omega) F (by omega) d hd
theorem RQ_up {dd dd2 mi pc : Nat} {L : List (Nat × Value)} {st : List Value} {hp : List AE} {T : QT} (h : RQ dd mi pc L st hp T) (h1 : dd ≤ dd2) : RQ dd2 mi pc L st hp T := by
  obtain ⟨N, k, hN⟩ := h
  exact ⟨N, k, fun n hn F hF d hd => hN n hn F hF d (Nat.le_trans h1 hd)⟩
theorem RQ_step {dd mi pc pc2 x y : Nat} {i : Instr} {L L2 : List (Nat × Value)} {st st2 : List Value} {hp hp2 : List AE} {T : QT} (hf : mF MM mi pc = some (i, x, y)) (hs : ∀ cf K, ev_s MM cf mi pc i x y L st hp 0 0 K = K pc2 L2 st2 hp2 0 0) (h : RQ dd mi pc2 L2 st2 hp2 T) : RQ dd mi pc L st hp T := by
  obtain ⟨N, k, hN⟩ := h
  refine ⟨N, k + 1, fun n hn F hF d hd => ?_⟩
  show (mF MM mi pc).bind _ = _
  rw [hf]
  show ev_s MM _ mi pc i x y L st hp 0 0 _ = _
  rw [hs]
  exact hN n hn F hF d hd
theorem RQ_call {dd mi pc pc2 x y : Nat} {i : Instr} {L : List (Nat × Value)} {st As rest : List Value} {hp : List AE} {r : ev_R} {T : QT} {cx : Nat} (hf : mF MM mi pc = some (i, x, y)) (hs : ∀ cf K, cf cx As hp = some r → ev_s MM cf mi pc i x y L st hp 0 0 K = K pc2 L (r.1.toList ++ rest) r.2 0 0) (hc : ∃ N, ∀ F, N ≤ F → ∀ d, dd ≤ d → evF F MM d cx As hp = some r) (h : RQ dd mi pc2 L (r.1.toList ++ rest) r.2 T) : RQ dd mi pc L st hp T := by
  obtain ⟨N, k, hN⟩ := h
  obtain ⟨N2, hN2⟩ := hc
  refine ⟨N + N2, k + 1, fun n hn F hF d hd => ?_⟩
  show (mF MM mi pc).bind _ = _
  rw [hf]
  show ev_s MM _ mi pc i x y L st hp 0 0 _ = _
  rw [hs _ _ (hN2 F (by omega) d hd)]
  exact hN n (by omega) F (by omega) d hd
section
variable {dd mi pc x y : Nat} {L : List (Nat × Value)} {st : List Value} {hp : List AE} {l l2 : List (Nat × AE)} {q : QT}
theorem qrt_ico {n : Int} {v : Int32} (hf : mF MM mi pc = some (.iconst n, x, y)) (hv : Int32.ofInt n = v) (h : RQ dd mi (pc + 1) L (.int v :: st) hp q) : RQ dd mi pc L st hp q := RQ_step hf (fun _ _ => by subst hv; rfl) h
theorem qrt_bip {n : Int} {v : Int32} (hf : mF MM mi pc = some (.bipush n, x, y)) (hv : (Int8.ofInt n).toInt32 = v) (h : RQ dd mi (pc + 2) L (.int v :: st) hp q) : RQ dd mi pc L st hp q := RQ_step hf (fun _ _ => by subst hv; rfl) h
theorem qrt_sip {n : Int} {v : Int32} (hf : mF MM mi pc = some (.sipush n, x, y)) (hv : (Int16.ofInt n).toInt32 = v) (h : RQ dd mi (pc + 3) L (.int v :: st) hp q) : RQ dd mi pc L st hp q := RQ_step hf (fun _ _ => by subst hv; rfl) h
theorem qrt_ild {n : Fin 4} {z : Int32} (hf : mF MM mi pc = some (.iload_n n, x, y)) (hg : ev_g L n = some (.int z)) (h : RQ dd mi (pc + 1) L (.int z :: st) hp q) : RQ dd mi pc L st hp q :=
  RQ_step hf (fun cf K => by show (ev_g L n).bind _ = _; rw [hg]; rfl) h
theorem qrt_ald {n : Fin 4} {a : Nat} (hf : mF MM mi pc = some (.aload_n n, x, y)) (hg : ev_g L n = some (.ref a)) (h : RQ dd mi (pc + 1) L (.ref a :: st) hp q) : RQ dd mi pc L st hp q :=
  RQ_step hf (fun cf K => by show (ev_g L n).bind _ = _; rw [hg]; rfl) h
theorem qrt_gf {idx a : Nat} {v : Value} (hf : mF MM mi pc = some (.getfield idx, x, y)) (hg : ev_gf hp a x y = some v) (h : RQ dd mi (pc + 3) L (v :: st) hp q) : RQ dd mi pc L (.ref a :: st) hp q :=
  RQ_step hf (fun cf K => by show (ev_gf hp a x y).bind _ = _; rw [hg]; rfl) h
theorem qrt_put {idx a : Nat} {fs : List Value} {v : Value} (hf : mF MM mi pc = some (.putfield idx, x, y)) (ha : hp[a]? = some (.inr (x, fs))) (hv : ev_f (TY x y) v = true) (hy : y < fs.length) (hn : FN x y = false) (h : RQ dd mi (pc + 3) L st (hp.set a (.inr (x, fs.set y v))) q) : RQ dd mi pc L (v :: .ref a :: st) hp q :=
  RQ_step hf (fun cf K => by
    show (ev_ob hp a x).bind (fun fs => if ev_f (TY x y) v = true ∧ y < fs.length ∧ (FN x y = true → (mY MM mi).name = "<init>") then K (pc + 3) L st (hp.set a (.inr (x, fs.set y v))) 0 0 else none) = _
    have ho : ev_ob hp a x = some fs := by
      unfold ev_ob
      rw [ha]
      show cond (Nat.beq x x) (some fs) none = some fs
      rw [Nat.beq_refl]
      rfl
    rw [ho]
    show (if ev_f (TY x y) v = true ∧ y < fs.length ∧ (FN x y = true → (mY MM mi).name = "<init>") then K (pc + 3) L st (hp.set a (.inr (x, fs.set y v))) 0 0 else none) = _
    rw [if_pos ⟨hv, hy, fun e => by rw [hn] at e; cases e⟩]) h
theorem qow_gf {idx a : Nat} {fs : List Value} {v : Value} (hf : mF MM mi pc = some (.getfield idx, x, y)) (hk : olk l a = some (.inr (x, fs))) (hy : fs[y]? = some v) (ha : Nat.ble 204 hp.length = true) (hb : Nat.blt a 204 = true) (h : RQ dd mi (pc + 3) L (v :: st) (ov hp l) q) : RQ dd mi pc L (.ref a :: st) (ov hp l) q := by
  have e := ov_at hk (Nat.lt_of_lt_of_le (Nat.le_of_ble_eq_true hb) (Nat.le_of_ble_eq_true ha))
  refine qrt_gf hf ?_ h
  unfold ev_gf
  rw [e]
  show cond (Nat.beq x x) (fs[y]?) none = some v
  rw [Nat.beq_refl]
  exact hy
theorem qow_pf {idx a : Nat} {fs : List Value} {v w : Value} (hf : mF MM mi pc = some (.putfield idx, x, y)) (hk : olk l a = some (.inr (x, fs))) (hy : fs[y]? = some w) (hv : ev_f (TY x y) v = true) (hn : FN x y = false) (ha : Nat.ble 204 hp.length = true) (hb : Nat.blt a 204 = true) (hl : oin l a (.inr (x, fs.set y v)) = l2) (h : RQ dd mi (pc + 3) L st (ov hp l2) q) : RQ dd mi pc L (v :: .ref a :: st) (ov hp l) q := by
  have e := ov_at hk (Nat.lt_of_lt_of_le (Nat.le_of_ble_eq_true hb) (Nat.le_of_ble_eq_true ha))
  refine qrt_put hf e hv (List.getElem?_eq_some_iff.mp hy).1 hn ?_
  rw [ov_set, hl]
  exact h
theorem qow_iv {idx a : Nat} {fs : List Value} {As rest : List Value} {v : Option Value} {r : List (Nat × AE)} (hf : mF MM mi pc = some (.invokevirtual idx, x, y)) (hx : Nat.blt x 900 = true) (hp0 : ev_pop y st = some (As, .ref a :: rest)) (hk : olk l a = some (.inr (mK MM x, fs))) (ha : Nat.ble 204 hp.length = true) (hb : Nat.blt a 204 = true) (hz : (Nat.beq (mC MM x) 0 && Nat.beq (mS MM x) 0) = true) (hc8 : Nat.ble ((rest.map fun v => v.category).sum) 8 = true) (hc : FR dd x (.ref a :: As) (ov hp l) (v, ov (ov hp l) r)) (hl : oil l r = l2) (h : RQ dd mi (pc + 3) L (v.toList ++ rest) (ov hp l2) q) : RQ dd mi pc L st (ov hp l) q := by
  have e := ov_at hk (Nat.lt_of_lt_of_le (Nat.le_of_ble_eq_true hb) (Nat.le_of_ble_eq_true ha))
  rw [Bool.and_eq_true] at hz
  have z1 := Nat.eq_of_beq_eq_true hz.1
  have z2 := Nat.eq_of_beq_eq_true hz.2
  have hx2 : x < 900 := Nat.le_of_ble_eq_true hx
  rw [ov_ov, hl] at hc
  refine RQ_call (cx := x) (As := .ref a :: As) (rest := rest) (r := (v, ov hp l2)) hf (fun cf K hcf => ?_) hc h
  show (if x < 900 then ev_iv MM cf mi x y st (ov hp l) 0 0 (K (pc + 3) L) else _) = _
  rw [if_pos hx2]
  unfold ev_iv
  rw [hp0]
  show (ev_ob (ov hp l) a (mK MM x)).bind (fun _ => if x < 900 then ev_cf MM cf mi x (.ref a :: As) rest (ov hp l) 0 0 (K (pc + 3) L) else none) = _
  have e3 : ev_ob (ov hp l) a (mK MM x) = some fs := by
    unfold ev_ob
    rw [e]
    show cond (Nat.beq (mK MM x) (mK MM x)) (some fs) none = some fs
    rw [Nat.beq_refl]
    rfl
  rw [e3]
  show (if x < 900 then ev_cf MM cf mi x (.ref a :: As) rest (ov hp l) 0 0 (K (pc + 3) L) else none) = _
  rw [if_pos hx2]
  unfold ev_cf
  rw [if_pos (Nat.le_of_ble_eq_true hc8), z1, z2, if_pos ⟨Nat.zero_le _, Nat.zero_le _⟩, hcf]
  rfl
theorem qow_is {idx : Nat} {As rest : List Value} {v : Option Value} {r : List (Nat × AE)} (hf : mF MM mi pc = some (.invokestatic idx, x, y)) (hx : Nat.blt x 900 = true) (hp0 : ev_pop y st = some (As, rest)) (hz : (Nat.beq (mC MM x) 0 && Nat.beq (mS MM x) 0) = true) (hc8 : Nat.ble ((rest.map fun v => v.category).sum) 8 = true) (hc : FR dd x As (ov hp l) (v, ov (ov hp l) r)) (hl : oil l r = l2) (h : RQ dd mi (pc + 3) L (v.toList ++ rest) (ov hp l2) q) : RQ dd mi pc L st (ov hp l) q := by
  rw [Bool.and_eq_true] at hz
  have z1 := Nat.eq_of_beq_eq_true hz.1
  have z2 := Nat.eq_of_beq_eq_true hz.2
  have hx2 : x < 900 := Nat.le_of_ble_eq_true hx
  rw [ov_ov, hl] at hc
  refine RQ_call (cx := x) (As := As) (rest := rest) (r := (v, ov hp l2)) hf (fun cf K hcf => ?_) hc h
  show (if x < 900 then (ev_pop y st).bind (fun q => ev_cf MM cf mi x q.1 q.2 (ov hp l) 0 0 (K (pc + 3) L)) else _) = _
  rw [if_pos hx2, hp0]
  show ev_cf MM cf mi x As rest (ov hp l) 0 0 (K (pc + 3) L) = _
  unfold ev_cf
  rw [if_pos (Nat.le_of_ble_eq_true hc8), z1, z2, if_pos ⟨Nat.zero_le _, Nat.zero_le _⟩, hcf]
  rfl
theorem qow_iv0 {idx a : Nat} {fs : List Value} {As rest : List Value} {r : List (Nat × AE)} (hf : mF MM mi pc = some (.invokevirtual idx, x, y)) (hx : Nat.blt x 900 = true) (hp0 : ev_pop y st = some (As, .ref a :: rest)) (hk : olk l a = some (.inr (mK MM x, fs))) (ha : Nat.ble 204 hp.length = true) (hb : Nat.blt a 204 = true) (hz : (Nat.beq (mC MM x) 0 && Nat.beq (mS MM x) 0) = true) (hc8 : Nat.ble ((rest.map fun v => v.category).sum) 8 = true) (hc : FR dd x (.ref a :: As) (ov hp l) (none, ov (ov hp l) r)) (hl : oil l r = l2) (h : RQ dd mi (pc + 3) L rest (ov hp l2) q) : RQ dd mi pc L st (ov hp l) q := qow_iv hf hx hp0 hk ha hb hz hc8 hc hl h
theorem qow_is0 {idx : Nat} {As rest : List Value} {r : List (Nat × AE)} (hf : mF MM mi pc = some (.invokestatic idx, x, y)) (hx : Nat.blt x 900 = true) (hp0 : ev_pop y st = some (As, rest)) (hz : (Nat.beq (mC MM x) 0 && Nat.beq (mS MM x) 0) = true) (hc8 : Nat.ble ((rest.map fun v => v.category).sum) 8 = true) (hc : FR dd x As (ov hp l) (none, ov (ov hp l) r)) (hl : oil l r = l2) (h : RQ dd mi (pc + 3) L rest (ov hp l2) q) : RQ dd mi pc L st (ov hp l) q := qow_is hf hx hp0 hz hc8 hc hl h
theorem qow_iv1 {w : Value} {idx a : Nat} {fs : List Value} {As rest : List Value} {r : List (Nat × AE)} (hf : mF MM mi pc = some (.invokevirtual idx, x, y)) (hx : Nat.blt x 900 = true) (hp0 : ev_pop y st = some (As, .ref a :: rest)) (hk : olk l a = some (.inr (mK MM x, fs))) (ha : Nat.ble 204 hp.length = true) (hb : Nat.blt a 204 = true) (hz : (Nat.beq (mC MM x) 0 && Nat.beq (mS MM x) 0) = true) (hc8 : Nat.ble ((rest.map fun v => v.category).sum) 8 = true) (hc : FR dd x (.ref a :: As) (ov hp l) (some w, ov (ov hp l) r)) (hl : oil l r = l2) (h : RQ dd mi (pc + 3) L (w :: rest) (ov hp l2) q) : RQ dd mi pc L st (ov hp l) q := qow_iv hf hx hp0 hk ha hb hz hc8 hc hl h
theorem qow_is1 {w : Value} {idx : Nat} {As rest : List Value} {r : List (Nat × AE)} (hf : mF MM mi pc = some (.invokestatic idx, x, y)) (hx : Nat.blt x 900 = true) (hp0 : ev_pop y st = some (As, rest)) (hz : (Nat.beq (mC MM x) 0 && Nat.beq (mS MM x) 0) = true) (hc8 : Nat.ble ((rest.map fun v => v.category).sum) 8 = true) (hc : FR dd x As (ov hp l) (some w, ov (ov hp l) r)) (hl : oil l r = l2) (h : RQ dd mi (pc + 3) L (w :: rest) (ov hp l2) q) : RQ dd mi pc L st (ov hp l) q := qow_is hf hx hp0 hz hc8 hc hl h
theorem qbcT_eq {off : Int} {a : Int32} (hf : mF MM mi pc = some (.ifCond .eq off, x, y)) (hP : a = 0) (h : RQ dd mi (x) L st hp q) : RQ dd mi pc L (.int a :: st) hp q := RQ_step hf (fun cf K => by show K (if a = 0 then x else pc + 3) L st hp 0 0 = _; rw [if_pos hP]) h
theorem qbcF_eq {off : Int} {a : Int32} (hf : mF MM mi pc = some (.ifCond .eq off, x, y)) (hP : ¬ (a = 0)) (h : RQ dd mi (pc + 3) L st hp q) : RQ dd mi pc L (.int a :: st) hp q := RQ_step hf (fun cf K => by show K (if a = 0 then x else pc + 3) L st hp 0 0 = _; rw [if_neg hP]) h
theorem qbcT_ne {off : Int} {a : Int32} (hf : mF MM mi pc = some (.ifCond .ne off, x, y)) (hP : a = 0) (h : RQ dd mi (pc + 3) L st hp q) : RQ dd mi pc L (.int a :: st) hp q := RQ_step hf (fun cf K => by show K (if a = 0 then pc + 3 else x) L st hp 0 0 = _; rw [if_pos hP]) h
theorem qbcF_ne {off : Int} {a : Int32} (hf : mF MM mi pc = some (.ifCond .ne off, x, y)) (hP : ¬ (a = 0)) (h : RQ dd mi (x) L st hp q) : RQ dd mi pc L (.int a :: st) hp q := RQ_step hf (fun cf K => by show K (if a = 0 then pc + 3 else x) L st hp 0 0 = _; rw [if_neg hP]) h
theorem qbiT_eq {off : Int} {a b : Int32} (hf : mF MM mi pc = some (.if_icmp .eq off, x, y)) (hP : a = b) (h : RQ dd mi (x) L st hp q) : RQ dd mi pc L (.int b :: .int a :: st) hp q := RQ_step hf (fun cf K => by show K (if a = b then x else pc + 3) L st hp 0 0 = _; rw [if_pos hP]) h
theorem qbiF_eq {off : Int} {a b : Int32} (hf : mF MM mi pc = some (.if_icmp .eq off, x, y)) (hP : ¬ (a = b)) (h : RQ dd mi (pc + 3) L st hp q) : RQ dd mi pc L (.int b :: .int a :: st) hp q := RQ_step hf (fun cf K => by show K (if a = b then x else pc + 3) L st hp 0 0 = _; rw [if_neg hP]) h
theorem qbiT_ne {off : Int} {a b : Int32} (hf : mF MM mi pc = some (.if_icmp .ne off, x, y)) (hP : a = b) (h : RQ dd mi (pc + 3) L st hp q) : RQ dd mi pc L (.int b :: .int a :: st) hp q := RQ_step hf (fun cf K => by show K (if a = b then pc + 3 else x) L st hp 0 0 = _; rw [if_pos hP]) h
theorem qbiF_ne {off : Int} {a b : Int32} (hf : mF MM mi pc = some (.if_icmp .ne off, x, y)) (hP : ¬ (a = b)) (h : RQ dd mi (x) L st hp q) : RQ dd mi pc L (.int b :: .int a :: st) hp q := RQ_step hf (fun cf K => by show K (if a = b then pc + 3 else x) L st hp 0 0 = _; rw [if_neg hP]) h
theorem qba_iadd {a b : Int32} (hf : mF MM mi pc = some (.iadd, x, y)) (h : RQ dd mi (pc + 1) L (.int (a + b) :: st) hp q) : RQ dd mi pc L (.int b :: .int a :: st) hp q := RQ_step hf (fun _ _ => rfl) h
end
theorem b_line3 {B : Nat → Nat} {bs ts : List Int32} {vs : Nat → Value} {bv : Nat → Int32} {n lim : Nat} {k a kd pl w : Nat} {le : Int64} {nu tk td fp nm sg qm : Int32} {wd : Int64} {o : Nat} {u1 u2 u3 u4 nw li : List Int32} {nz : List Int64} {P : Nat} {Dn : Nat} {lw : Int32} {cl : Int32} {id : Int32} {gl : Nat} {bo : Nat} {pn : List Int64} {ri : List Int32} {lf : List Int32} {wa : List Int32} {fo : List Int32} {dn : List Int64} {ha : List Int32} {pa : List Int32} {bl : List Int32} (hB : BY bs B) (hM : MY ts B) (hb : ∀ i, B i < 256) (hn : n ≤ 940) (hl : lim ≤ 940) (t : TF k n a kd w le nu nm sg wd) (hP : P ≤ 7) (hDn : Dn ≤ 8) (lp : pn.length = 7) (ld : dn.length = 8) (lz : nz.length = 15) (hv : nw[0]? = some (Int32.ofNat P)) (hv1 : nw[1]? = some (Int32.ofNat Dn)) (hN : ∀ i, i < P → ∃ ss, nok ss ∧ pn[i]? = some (p5 ss) ∧ nz[0 + i]? = some (p27 ss)) (hN2 : ∀ i, i < Dn → ∃ ss, nok ss ∧ dn[i]? = some (p5 ss) ∧ nz[7 + i]? = some (p27 ss)) (bx : BX o u1 u2 u3 u4) (ln : li.length = 160) : (∃ (T M : AE) (o2 : Nat) (v1 v2 v3 v4 li2 : List Int32), FC n lim (posb vs o) T M ∧ (∀ (H : List AE) (dd : Nat) (L : List (Nat × Value)), Nat.ble 204 H.length = true → ev_g L 0 = some (.ref 105) → ev_g L 1 = some (.ref 1) → ev_g L 2 = some (.ref 3) → RT MM (dd + 14) 54 29 L [] (ov H ((1, tcl n lim a kd pl w le nu tk (Int32.ofNat 0) fp) :: (2, bcl bs) :: [(3, dcl3 P Dn lw cl id gl bo), (4, lng pn), (5, ia ri), (6, ia lf), (7, ia wa), (8, ia fo), (9, lng dn), (10, ia ha), (11, ia pa), (12, ia bl), (105, bkc o bv), (106, ia u1), (107, ia u2), (108, ia u3), (109, ia u4)])) (none, ov H ((1, T) :: (2, bcl bs) :: [(3, dcl3 P Dn lw cl id gl bo), (4, lng pn), (5, ia ri), (6, ia lf), (7, ia wa), (8, ia fo), (9, lng dn), (10, ia ha), (11, ia pa), (12, ia bl), (105, bkc o2 bv), (106, ia v1), (107, ia v2), (108, ia v3), (109, ia v4)]))) ∧ ∀ H : List AE, Nat.ble 204 H.length = true → FR 15 246 [.ref 180] (ov H ((180, mcl (Int32.ofNat 0) (Int32.ofNat 0) n lim a pl (km kd) nm sg (Int32.ofNat 0) qm wd td (posb vs o)) :: (181, mtl ts) :: [(182, ia nw), (187, lng nz), (200, ia li)])) (some (.int (Int32.ofNat 0)), ov (ov H ((180, mcl (Int32.ofNat 0) (Int32.ofNat 0) n lim a pl (km kd) nm sg (Int32.ofNat 0) qm wd td (posb vs o)) :: (181, mtl ts) :: [(182, ia nw), (187, lng nz), (200, ia li)])) [(180, M), (200, ia li2)])) ∨ (o < 40 ∧ ∃ (k2 : Nat) (tk2 td2 : Int32) (T M : AE) (v1 v2 v3 v4 li2 : List Int32), TC n lim (posb vs o) k2 tk2 td2 T M ∧ BX (o + 1) v1 v2 v3 v4 ∧ li2.length = 160 ∧ (∀ (H : List AE) (dd : Nat) (L : List (Nat × Value)) (q : ev_R) (i : Int32), Nat.ble 204 H.length = true → ev_g L 0 = some (.ref 105) → ev_g L 1 = some (.ref 1) → ev_g L 2 = some (.ref 3) → ev_g L 3 = some (.int i) → (∀ L2, ev_g L2 0 = some (.ref 105) → ev_g L2 1 = some (.ref 1) → ev_g L2 2 = some (.ref 3) → ev_g L2 3 = some (.int i) → RT MM (dd + 14) 54 70 L2 [] (ov H ((1, T) :: (2, bcl bs) :: [(3, dcl3 P Dn lw cl id gl bo), (4, lng pn), (5, ia ri), (6, ia lf), (7, ia wa), (8, ia fo), (9, lng dn), (10, ia ha), (11, ia pa), (12, ia bl), (105, bkc (o + 1) bv), (106, ia v1), (107, ia v2), (108, ia v3), (109, ia v4)])) q) → RT MM (dd + 14) 54 29 L [] (ov H ((1, tcl n lim a kd pl w le nu tk (Int32.ofNat 0) fp) :: (2, bcl bs) :: [(3, dcl3 P Dn lw cl id gl bo), (4, lng pn), (5, ia ri), (6, ia lf), (7, ia wa), (8, ia fo), (9, lng dn), (10, ia ha), (11, ia pa), (12, ia bl), (105, bkc o bv), (106, ia u1), (107, ia u2), (108, ia u3), (109, ia u4)])) q) ∧ ∀ H : List AE, Nat.ble 204 H.length = true → FR 15 246 [.ref 180] (ov H ((180, mcl (Int32.ofNat 0) (Int32.ofNat 0) n lim a pl (km kd) nm sg (Int32.ofNat 0) qm wd td (posb vs o)) :: (181, mtl ts) :: [(182, ia nw), (187, lng nz), (200, ia li)])) (some (.int (Int32.ofNat 1)), ov (ov H ((180, mcl (Int32.ofNat 0) (Int32.ofNat 0) n lim a pl (km kd) nm sg (Int32.ofNat 0) qm wd td (posb vs o)) :: (181, mtl ts) :: [(182, ia nw), (187, lng nz), (200, ia li)])) [(180, M), (200, ia li2)])) := by
  have hw0 := t.2.2.2.2.1
  by_cases cd : w = 16
  · rcases b_day3 (vs := vs) (bv := bv) (pl := pl) (tk := tk) (td := td) (fp := fp) (qm := qm) hB hM hb hn hl t cd hP hDn lp ld lz hv hv1 hN hN2 bx ln with ⟨T, M, li2, f, ln2, h⟩ | ⟨ho, k2, tk2, td2, T, M, v1, v2, v3, v4, li2, c2, bx2, ln2, h1, h2⟩
    · refine Or.inl ⟨T, M, o, u1, u2, u3, u4, li2, f, fun H dd L hlen l0 l1 l2 => ?_, fun H hlen => (h.2 H hlen).up (by omega)⟩
      refine rt_ald rfl l1 ?_
      refine ow_gf rfl rfl rfl hlen rfl ?_
      refine RT_step (pc2 := 36) rfl (fun _ _ => rfl) ?_
      refine rt_acN rfl (by omega) (by omega) ?_
      refine RT_if cd ?_
      refine rt_ald rfl l0 ?_
      refine rt_ald rfl l1 ?_
      refine ow_iv1 (l2 := ((1, T) :: (2, bcl bs) :: [(3, dcl3 P Dn lw cl id gl bo), (4, lng pn), (5, ia ri), (6, ia lf), (7, ia wa), (8, ia fo), (9, lng dn), (10, ia ha), (11, ia pa), (12, ia bl), (105, bkc o bv), (106, ia u1), (107, ia u2), (108, ia u3), (109, ia u4)])) rfl rfl rfl rfl hlen rfl rfl rfl ((h.1 H hlen).up (by omega)) rfl ?_
      refine RT_step (pc2 := 53) rfl (fun _ _ => rfl) ?_
      refine rt_is2 rfl (by decide +kernel) ?_
      refine rt_il2 rfl gs_n ?_
      refine bcT_eq rfl rfl ?_
      exact ow_ret rfl rfl rfl
    · obtain ⟨a2, kd2, pl2, w2, le2, nu2, fp2, nm2, sg2, qm2, wd2, rfl, rfl, t2⟩ := c2
      rcases s_end hB hM hb hn hl (po := (posb vs o)) (pl := pl2) (tk := tk2) (td := td2) (fp := fp2) (plM := qm2) t2 with ⟨T5, M5, f, hx, hm⟩ | ⟨T5, M5, c5, hx, hm⟩
      · refine Or.inl ⟨T5, M5, o + 1, v1, v2, v3, v4, li2, f, fun H dd L hlen l0 l1 l2 => ?_, fun H hlen => ?_⟩
        · refine rt_ald rfl l1 ?_
          refine ow_gf rfl rfl rfl hlen rfl ?_
          refine RT_step (pc2 := 36) rfl (fun _ _ => rfl) ?_
          refine rt_acN rfl (by omega) (by omega) ?_
          refine RT_if cd ?_
          refine rt_ald rfl l0 ?_
          refine rt_ald rfl l1 ?_
          refine ow_iv1 (l2 := ((1, tcl n lim a2 kd2 pl2 w2 le2 nu2 tk2 (Int32.ofNat 0) fp2) :: (2, bcl bs) :: [(3, dcl3 P Dn lw cl id gl bo), (4, lng pn), (5, ia ri), (6, ia lf), (7, ia wa), (8, ia fo), (9, lng dn), (10, ia ha), (11, ia pa), (12, ia bl), (105, bkc (o + 1) bv), (106, ia v1), (107, ia v2), (108, ia v3), (109, ia v4)])) rfl rfl rfl rfl hlen rfl rfl rfl ((h1 H hlen).up (by omega)) rfl ?_
          refine RT_step (pc2 := 53) rfl (fun _ _ => rfl) ?_
          refine rt_is2 rfl (by decide +kernel) ?_
          refine rt_il2 rfl gs_n ?_
          refine bcF_eq rfl (by decide) ?_
          refine rt_ald rfl (gs_o rfl l1 rfl) ?_
          refine rt_bip rfl k8_59 ?_
          refine ow_iv1 (l2 := ((1, T5) :: (2, bcl bs) :: [(3, dcl3 P Dn lw cl id gl bo), (4, lng pn), (5, ia ri), (6, ia lf), (7, ia wa), (8, ia fo), (9, lng dn), (10, ia ha), (11, ia pa), (12, ia bl), (105, bkc (o + 1) bv), (106, ia v1), (107, ia v2), (108, ia v3), (109, ia v4)])) rfl rfl rfl rfl hlen rfl rfl rfl ((hx _ (ov_hl hlen) (ov_at rfl (ov_lt hlen (by decide))) (ov_at rfl (ov_lt hlen (by decide)))).up (by omega)) rfl ?_
          refine bcT_ne rfl rfl ?_
          exact ow_ret rfl rfl rfl
        · refine FR_st2 (l2 := ((180, M5) :: (181, mtl ts) :: [(182, ia nw), (187, lng nz), (200, ia li2)])) rfl rfl rfl ?_
          refine h2 H 1 _ hlen (fun L2 l0 => ?_)
          refine rt_ald rfl l0 ?_
          refine ow_iv1 (l2 := ((180, M5) :: (181, mtl ts) :: [(182, ia nw), (187, lng nz), (200, ia li2)])) rfl rfl rfl rfl hlen rfl rfl rfl ((hm _ (ov_hl hlen) (ov_at rfl (ov_lt hlen (by decide))) (ov_at rfl (ov_lt hlen (by decide)))).up (by omega)) rfl ?_
          refine bcT_eq rfl rfl ?_
          refine rt_ico rfl ki_0 ?_
          exact ow_irt rfl rfl rfl
      · refine Or.inr ⟨ho, _, tk2, td2, T5, M5, v1, v2, v3, v4, li2, c5, bx2, ln2, fun H dd L q i hlen l0 l1 l2 l3 hq => ?_, fun H hlen => ?_⟩
        · refine rt_ald rfl l1 ?_
          refine ow_gf rfl rfl rfl hlen rfl ?_
          refine RT_step (pc2 := 36) rfl (fun _ _ => rfl) ?_
          refine rt_acN rfl (by omega) (by omega) ?_
          refine RT_if cd ?_
          refine rt_ald rfl l0 ?_
          refine rt_ald rfl l1 ?_
          refine ow_iv1 (l2 := ((1, tcl n lim a2 kd2 pl2 w2 le2 nu2 tk2 (Int32.ofNat 0) fp2) :: (2, bcl bs) :: [(3, dcl3 P Dn lw cl id gl bo), (4, lng pn), (5, ia ri), (6, ia lf), (7, ia wa), (8, ia fo), (9, lng dn), (10, ia ha), (11, ia pa), (12, ia bl), (105, bkc (o + 1) bv), (106, ia v1), (107, ia v2), (108, ia v3), (109, ia v4)])) rfl rfl rfl rfl hlen rfl rfl rfl ((h1 H hlen).up (by omega)) rfl ?_
          refine RT_step (pc2 := 53) rfl (fun _ _ => rfl) ?_
          refine rt_is2 rfl (by decide +kernel) ?_
          refine rt_il2 rfl gs_n ?_
          refine bcF_eq rfl (by decide) ?_
          refine rt_ald rfl (gs_o rfl l1 rfl) ?_
          refine rt_bip rfl k8_59 ?_
          refine ow_iv1 (l2 := ((1, T5) :: (2, bcl bs) :: [(3, dcl3 P Dn lw cl id gl bo), (4, lng pn), (5, ia ri), (6, ia lf), (7, ia wa), (8, ia fo), (9, lng dn), (10, ia ha), (11, ia pa), (12, ia bl), (105, bkc (o + 1) bv), (106, ia v1), (107, ia v2), (108, ia v3), (109, ia v4)])) rfl rfl rfl rfl hlen rfl rfl rfl ((hx _ (ov_hl hlen) (ov_at rfl (ov_lt hlen (by decide))) (ov_at rfl (ov_lt hlen (by decide)))).up (by omega)) rfl ?_
          refine bcF_ne rfl (by decide) ?_
          exact hq _ (gs_o rfl l0 rfl) (gs_o rfl l1 rfl) (gs_o rfl l2 rfl) (gs_o rfl l3 rfl)
        · refine FR_st2 (l2 := ((180, M5) :: (181, mtl ts) :: [(182, ia nw), (187, lng nz), (200, ia li2)])) rfl rfl rfl ?_
          refine h2 H 1 _ hlen (fun L2 l0 => ?_)
          refine rt_ald rfl l0 ?_
          refine ow_iv1 (l2 := ((180, M5) :: (181, mtl ts) :: [(182, ia nw), (187, lng nz), (200, ia li2)])) rfl rfl rfl rfl hlen rfl rfl rfl ((hm _ (ov_hl hlen) (ov_at rfl (ov_lt hlen (by decide))) (ov_at rfl (ov_lt hlen (by decide)))).up (by omega)) rfl ?_
          refine bcF_eq rfl (by decide) ?_
          refine rt_ico rfl ki_1 ?_
          refine RT_step (pc2 := 181) rfl (fun _ _ => rfl) ?_
          exact ow_irt rfl rfl rfl
  · rcases b_act3 (vs := vs) (bv := bv) (pl := pl) (tk := tk) (td := td) (fp := fp) (qm := qm) hB hM hb hn hl t cd hP hDn lp ld lz hv hv1 hN hN2 bx ln with ⟨T, M, li2, f, ln2, h⟩ | ⟨ho, k2, tk2, td2, T, M, v1, v2, v3, v4, li2, c2, bx2, ln2, h1, h2⟩
    · refine Or.inl ⟨T, M, o, u1, u2, u3, u4, li2, f, fun H dd L hlen l0 l1 l2 => ?_, fun H hlen => (h.2 H hlen).up (by omega)⟩
      refine rt_ald rfl l1 ?_
      refine ow_gf rfl rfl rfl hlen rfl ?_
      refine RT_step (pc2 := 36) rfl (fun _ _ => rfl) ?_
      refine rt_acN rfl (by omega) (by omega) ?_
      refine RT_el cd ?_
      refine rt_ald rfl l0 ?_
      refine rt_ald rfl l1 ?_
      refine rt_ald rfl l2 ?_
      refine ow_iv1 (l2 := ((1, T) :: (2, bcl bs) :: [(3, dcl3 P Dn lw cl id gl bo), (4, lng pn), (5, ia ri), (6, ia lf), (7, ia wa), (8, ia fo), (9, lng dn), (10, ia ha), (11, ia pa), (12, ia bl), (105, bkc o bv), (106, ia u1), (107, ia u2), (108, ia u3), (109, ia u4)])) rfl rfl rfl rfl hlen rfl rfl rfl ((h.1 H hlen).up (by omega)) rfl ?_
      refine rt_is2 rfl (by decide +kernel) ?_
      refine rt_il2 rfl gs_n ?_
      refine bcT_eq rfl rfl ?_
      exact ow_ret rfl rfl rfl
    · obtain ⟨a2, kd2, pl2, w2, le2, nu2, fp2, nm2, sg2, qm2, wd2, rfl, rfl, t2⟩ := c2
      rcases s_end hB hM hb hn hl (po := (posb vs o)) (pl := pl2) (tk := tk2) (td := td2) (fp := fp2) (plM := qm2) t2 with ⟨T5, M5, f, hx, hm⟩ | ⟨T5, M5, c5, hx, hm⟩
      · refine Or.inl ⟨T5, M5, o + 1, v1, v2, v3, v4, li2, f, fun H dd L hlen l0 l1 l2 => ?_, fun H hlen => ?_⟩
        · refine rt_ald rfl l1 ?_
          refine ow_gf rfl rfl rfl hlen rfl ?_
          refine RT_step (pc2 := 36) rfl (fun _ _ => rfl) ?_
          refine rt_acN rfl (by omega) (by omega) ?_
          refine RT_el cd ?_
          refine rt_ald rfl l0 ?_
          refine rt_ald rfl l1 ?_
          refine rt_ald rfl l2 ?_
          refine ow_iv1 (l2 := ((1, tcl n lim a2 kd2 pl2 w2 le2 nu2 tk2 (Int32.ofNat 0) fp2) :: (2, bcl bs) :: [(3, dcl3 P Dn lw cl id gl bo), (4, lng pn), (5, ia ri), (6, ia lf), (7, ia wa), (8, ia fo), (9, lng dn), (10, ia ha), (11, ia pa), (12, ia bl), (105, bkc (o + 1) bv), (106, ia v1), (107, ia v2), (108, ia v3), (109, ia v4)])) rfl rfl rfl rfl hlen rfl rfl rfl ((h1 H hlen).up (by omega)) rfl ?_
          refine rt_is2 rfl (by decide +kernel) ?_
          refine rt_il2 rfl gs_n ?_
          refine bcF_eq rfl (by decide) ?_
          refine rt_ald rfl (gs_o rfl l1 rfl) ?_
          refine rt_bip rfl k8_59 ?_
          refine ow_iv1 (l2 := ((1, T5) :: (2, bcl bs) :: [(3, dcl3 P Dn lw cl id gl bo), (4, lng pn), (5, ia ri), (6, ia lf), (7, ia wa), (8, ia fo), (9, lng dn), (10, ia ha), (11, ia pa), (12, ia bl), (105, bkc (o + 1) bv), (106, ia v1), (107, ia v2), (108, ia v3), (109, ia v4)])) rfl rfl rfl rfl hlen rfl rfl rfl ((hx _ (ov_hl hlen) (ov_at rfl (ov_lt hlen (by decide))) (ov_at rfl (ov_lt hlen (by decide)))).up (by omega)) rfl ?_
          refine bcT_ne rfl rfl ?_
          exact ow_ret rfl rfl rfl
        · refine FR_st2 (l2 := ((180, M5) :: (181, mtl ts) :: [(182, ia nw), (187, lng nz), (200, ia li2)])) rfl rfl rfl ?_
          refine h2 H 1 _ hlen (fun L2 l0 => ?_)
          refine rt_ald rfl l0 ?_
          refine ow_iv1 (l2 := ((180, M5) :: (181, mtl ts) :: [(182, ia nw), (187, lng nz), (200, ia li2)])) rfl rfl rfl rfl hlen rfl rfl rfl ((hm _ (ov_hl hlen) (ov_at rfl (ov_lt hlen (by decide))) (ov_at rfl (ov_lt hlen (by decide)))).up (by omega)) rfl ?_
          refine bcT_eq rfl rfl ?_
          refine rt_ico rfl ki_0 ?_
          exact ow_irt rfl rfl rfl
      · refine Or.inr ⟨ho, _, tk2, td2, T5, M5, v1, v2, v3, v4, li2, c5, bx2, ln2, fun H dd L q i hlen l0 l1 l2 l3 hq => ?_, fun H hlen => ?_⟩
        · refine rt_ald rfl l1 ?_
          refine ow_gf rfl rfl rfl hlen rfl ?_
          refine RT_step (pc2 := 36) rfl (fun _ _ => rfl) ?_
          refine rt_acN rfl (by omega) (by omega) ?_
          refine RT_el cd ?_
          refine rt_ald rfl l0 ?_
          refine rt_ald rfl l1 ?_
          refine rt_ald rfl l2 ?_
          refine ow_iv1 (l2 := ((1, tcl n lim a2 kd2 pl2 w2 le2 nu2 tk2 (Int32.ofNat 0) fp2) :: (2, bcl bs) :: [(3, dcl3 P Dn lw cl id gl bo), (4, lng pn), (5, ia ri), (6, ia lf), (7, ia wa), (8, ia fo), (9, lng dn), (10, ia ha), (11, ia pa), (12, ia bl), (105, bkc (o + 1) bv), (106, ia v1), (107, ia v2), (108, ia v3), (109, ia v4)])) rfl rfl rfl rfl hlen rfl rfl rfl ((h1 H hlen).up (by omega)) rfl ?_
          refine rt_is2 rfl (by decide +kernel) ?_
          refine rt_il2 rfl gs_n ?_
          refine bcF_eq rfl (by decide) ?_
          refine rt_ald rfl (gs_o rfl l1 rfl) ?_
          refine rt_bip rfl k8_59 ?_
          refine ow_iv1 (l2 := ((1, T5) :: (2, bcl bs) :: [(3, dcl3 P Dn lw cl id gl bo), (4, lng pn), (5, ia ri), (6, ia lf), (7, ia wa), (8, ia fo), (9, lng dn), (10, ia ha), (11, ia pa), (12, ia bl), (105, bkc (o + 1) bv), (106, ia v1), (107, ia v2), (108, ia v3), (109, ia v4)])) rfl rfl rfl rfl hlen rfl rfl rfl ((hx _ (ov_hl hlen) (ov_at rfl (ov_lt hlen (by decide))) (ov_at rfl (ov_lt hlen (by decide)))).up (by omega)) rfl ?_
          refine bcF_ne rfl (by decide) ?_
          exact hq _ (gs_o rfl l0 rfl) (gs_o rfl l1 rfl) (gs_o rfl l2 rfl) (gs_o rfl l3 rfl)
        · refine FR_st2 (l2 := ((180, M5) :: (181, mtl ts) :: [(182, ia nw), (187, lng nz), (200, ia li2)])) rfl rfl rfl ?_
          refine h2 H 1 _ hlen (fun L2 l0 => ?_)
          refine rt_ald rfl l0 ?_
          refine ow_iv1 (l2 := ((180, M5) :: (181, mtl ts) :: [(182, ia nw), (187, lng nz), (200, ia li2)])) rfl rfl rfl rfl hlen rfl rfl rfl ((hm _ (ov_hl hlen) (ov_at rfl (ov_lt hlen (by decide))) (ov_at rfl (ov_lt hlen (by decide)))).up (by omega)) rfl ?_
          refine bcF_eq rfl (by decide) ?_
          refine rt_ico rfl ki_1 ?_
          refine RT_step (pc2 := 181) rfl (fun _ _ => rfl) ?_
          exact ow_irt rfl rfl rfl
theorem b_loop3 {B : Nat → Nat} {bs ts : List Int32} {vs : Nat → Value} {bv : Nat → Int32} {n lim : Nat} {nw : List Int32} {nz : List Int64} {P : Nat} {Dn : Nat} {lw : Int32} {cl : Int32} {id : Int32} {gl : Nat} {bo : Nat} {pn : List Int64} {ri : List Int32} {lf : List Int32} {wa : List Int32} {fo : List Int32} {dn : List Int64} {ha : List Int32} {pa : List Int32} {bl : List Int32} (hB : BY bs B) (hM : MY ts B) (hb : ∀ i, B i < 256) (hn : n ≤ 940) (hl : lim ≤ 940) (hP : P ≤ 7) (hDn : Dn ≤ 8) (lp : pn.length = 7) (ld : dn.length = 8) (lz : nz.length = 15) (hv : nw[0]? = some (Int32.ofNat P)) (hv1 : nw[1]? = some (Int32.ofNat Dn)) (hN : ∀ i, i < P → ∃ ss, nok ss ∧ pn[i]? = some (p5 ss) ∧ nz[0 + i]? = some (p27 ss)) (hN2 : ∀ i, i < Dn → ∃ ss, nok ss ∧ dn[i]? = some (p5 ss) ∧ nz[7 + i]? = some (p27 ss)) : ∀ (r k a kd pl w : Nat) (le : Int64) (nu tk td fp nm sg qm : Int32) (wd : Int64) (o : Nat) (u1 u2 u3 u4 li : List Int32), o + r = 40 → TF k n a kd w le nu nm sg wd → BX o u1 u2 u3 u4 → li.length = 160 → (∃ (T M : AE) (o2 lm : Nat) (v1 v2 v3 v4 li2 : List Int32) (rv : Int32), FC n lim (posb vs lm) T M ∧ (∀ (H : List AE) (dd : Nat) (L : List (Nat × Value)), Nat.ble 204 H.length = true → ev_g L 0 = some (.ref 105) → ev_g L 1 = some (.ref 1) → ev_g L 2 = some (.ref 3) → ev_g L 3 = some (.int (Int32.ofNat o)) → RT MM (dd + 14) 54 14 L [] (ov H ((1, tcl n lim a kd pl w le nu tk (Int32.ofNat 0) fp) :: (2, bcl bs) :: [(3, dcl3 P Dn lw cl id gl bo), (4, lng pn), (5, ia ri), (6, ia lf), (7, ia wa), (8, ia fo), (9, lng dn), (10, ia ha), (11, ia pa), (12, ia bl), (105, bkc o bv), (106, ia u1), (107, ia u2), (108, ia u3), (109, ia u4)])) (none, ov H ((1, T) :: (2, bcl bs) :: [(3, dcl3 P Dn lw cl id gl bo), (4, lng pn), (5, ia ri), (6, ia lf), (7, ia wa), (8, ia fo), (9, lng dn), (10, ia ha), (11, ia pa), (12, ia bl), (105, bkc o2 bv), (106, ia v1), (107, ia v2), (108, ia v3), (109, ia v4)]))) ∧ ∀ (H : List AE) (dd : Nat) (L : List (Nat × Value)), Nat.ble 204 H.length = true → ev_g L 0 = some (.ref 180) → RT MM (dd + 15) 181 30 L [] (ov H ((180, mcl (Int32.ofNat 0) (Int32.ofNat 0) n lim a pl (km kd) nm sg (Int32.ofNat 0) qm wd td (posb vs o)) :: (181, mtl ts) :: [(182, ia nw), (187, lng nz), (200, ia li)])) (some (.int rv), ov H ((180, M) :: (181, mtl ts) :: [(182, ia nw), (187, lng nz), (200, ia li2)]))) ∨ (∃ (k2 : Nat) (tk2 td2 : Int32) (T M : AE) (o2 lm : Nat) (v1 v2 v3 v4 li2 : List Int32), TC n lim (posb vs lm) k2 tk2 td2 T M ∧ (∀ (H : List AE) (dd : Nat) (L : List (Nat × Value)), Nat.ble 204 H.length = true → ev_g L 0 = some (.ref 105) → ev_g L 1 = some (.ref 1) → ev_g L 2 = some (.ref 3) → ev_g L 3 = some (.int (Int32.ofNat o)) → RT MM (dd + 14) 54 14 L [] (ov H ((1, tcl n lim a kd pl w le nu tk (Int32.ofNat 0) fp) :: (2, bcl bs) :: [(3, dcl3 P Dn lw cl id gl bo), (4, lng pn), (5, ia ri), (6, ia lf), (7, ia wa), (8, ia fo), (9, lng dn), (10, ia ha), (11, ia pa), (12, ia bl), (105, bkc o bv), (106, ia u1), (107, ia u2), (108, ia u3), (109, ia u4)])) (none, ov H ((1, T) :: (2, bcl bs) :: [(3, dcl3 P Dn lw cl id gl bo), (4, lng pn), (5, ia ri), (6, ia lf), (7, ia wa), (8, ia fo), (9, lng dn), (10, ia ha), (11, ia pa), (12, ia bl), (105, bkc o2 bv), (106, ia v1), (107, ia v2), (108, ia v3), (109, ia v4)]))) ∧ ∀ (H : List AE) (dd : Nat) (L : List (Nat × Value)), Nat.ble 204 H.length = true → ev_g L 0 = some (.ref 180) → RQ (dd + 15) 181 30 L [] (ov H ((180, mcl (Int32.ofNat 0) (Int32.ofNat 0) n lim a pl (km kd) nm sg (Int32.ofNat 0) qm wd td (posb vs o)) :: (181, mtl ts) :: [(182, ia nw), (187, lng nz), (200, ia li)])) (65, L, [], ov H ((180, M) :: (181, mtl ts) :: [(182, ia nw), (187, lng nz), (200, ia li2)]))) := by
  intro r
  induction r with
  | zero =>
    intro k a kd pl w le nu tk td fp nm sg qm wd o u1 u2 u3 u4 li hr t bx ln
    obtain ⟨-, -, -, -, k0_, k10⟩ := km_is kd t.2.2.2.1
    have hk5 := t.2.2.2.1
    by_cases c4 : kd = 4
    · refine Or.inr ⟨k, tk, td, tcl n lim a kd pl w le nu tk (Int32.ofNat 0) fp, mcl (Int32.ofNat 0) (Int32.ofNat 0) n lim a pl (km kd) nm sg (Int32.ofNat 0) qm wd td (posb vs o), o, o, u1, u2, u3, u4, li, tf_td t, fun H dd L hlen l0 l1 l2 l3 => ?_, fun H dd L hlen l0 => ?_⟩
      · refine rt_ild rfl l3 ?_
        refine rt_bip rfl k8_40 ?_
        refine biF_gt rfl (n_nlt (by omega) (by omega)) ?_
        refine rt_ald rfl l1 ?_
        refine ow_gf rfl rfl rfl hlen rfl ?_
        refine rt_ico rfl ki_4 ?_
        refine biT_ne rfl (n_eq c4) ?_
        exact ow_ret rfl rfl rfl
      · refine qrt_ald rfl l0 ?_
        refine qow_gf rfl rfl rfl hlen rfl ?_
        refine qbcT_eq rfl (n_eq (b := 0) (k0_.mpr c4)) ?_
        exact RQ_refl
    · rcases b_line3 (vs := vs) (bv := bv) (pl := pl) (tk := tk) (td := td) (fp := fp) (qm := qm) hB hM hb hn hl t hP hDn lp ld lz hv hv1 hN hN2 bx ln with ⟨T, M, o2, v1, v2, v3, v4, li2, f, h1, h2⟩ | ⟨ho, k2, tk2, td2, T, M, v1, v2, v3, v4, li2, c2, bx2, ln2, h1, h2⟩
      · obtain ⟨a9, kd9, pl9, w9, le9, nu9, tk9, kk9, am9, fm9, kM9, nm9, sg9, fa9, qm9, wd9, td9, rfl, rfl, f9⟩ := f
        refine Or.inl ⟨tcl n lim a9 kd9 pl9 w9 le9 nu9 tk9 (Int32.ofNat kk9) (Int32.ofNat pl9), mcl (Int32.ofNat 0) (Int32.ofNat 0) n lim am9 fm9 kM9 nm9 sg9 fa9 qm9 wd9 td9 (posb vs o), o2, o, v1, v2, v3, v4, li2, (-2 : Int32) - qm9, ⟨a9, kd9, pl9, w9, le9, nu9, tk9, kk9, am9, fm9, kM9, nm9, sg9, fa9, qm9, wd9, td9, rfl, rfl, f9⟩, fun H dd L hlen l0 l1 l2 l3 => ?_, fun H dd L hlen l0 => ?_⟩
        · refine rt_ild rfl l3 ?_
          refine rt_bip rfl k8_40 ?_
          refine biF_gt rfl (n_nlt (by omega) (by omega)) ?_
          refine rt_ald rfl l1 ?_
          refine ow_gf rfl rfl rfl hlen rfl ?_
          refine rt_ico rfl ki_4 ?_
          refine biF_ne rfl (n_ne c4 (by omega) (by decide)) ?_
          exact h1 H dd _ hlen l0 l1 l2
        · refine rt_ald rfl l0 ?_
          refine ow_gf rfl rfl rfl hlen rfl ?_
          refine bcF_eq rfl (n_ne (b := 0) (fun e => c4 (k0_.mp e)) (by omega) (by decide)) ?_
          refine rt_ald rfl l0 ?_
          refine ow_iv1 (l2 := ((180, mcl (Int32.ofNat 0) (Int32.ofNat 0) n lim am9 fm9 kM9 nm9 sg9 fa9 qm9 wd9 td9 (posb vs o)) :: (181, mtl ts) :: [(182, ia nw), (187, lng nz), (200, ia li2)])) rfl rfl rfl rfl hlen rfl rfl rfl ((h2 H hlen).up (by omega)) rfl ?_
          refine bcT_ne rfl rfl ?_
          refine rt_bip rfl k8_m2 ?_
          refine rt_ald rfl l0 ?_
          refine ow_gf rfl rfl rfl hlen rfl ?_
          refine ba_isub rfl ?_
          exact ow_irt rfl rfl rfl
      · omega
  | succ r ih =>
    intro k a kd pl w le nu tk td fp nm sg qm wd o u1 u2 u3 u4 li hr t bx ln
    obtain ⟨-, -, -, -, k0_, k10⟩ := km_is kd t.2.2.2.1
    have hk5 := t.2.2.2.1
    by_cases c4 : kd = 4
    · refine Or.inr ⟨k, tk, td, tcl n lim a kd pl w le nu tk (Int32.ofNat 0) fp, mcl (Int32.ofNat 0) (Int32.ofNat 0) n lim a pl (km kd) nm sg (Int32.ofNat 0) qm wd td (posb vs o), o, o, u1, u2, u3, u4, li, tf_td t, fun H dd L hlen l0 l1 l2 l3 => ?_, fun H dd L hlen l0 => ?_⟩
      · refine rt_ild rfl l3 ?_
        refine rt_bip rfl k8_40 ?_
        refine biF_gt rfl (n_nlt (by omega) (by omega)) ?_
        refine rt_ald rfl l1 ?_
        refine ow_gf rfl rfl rfl hlen rfl ?_
        refine rt_ico rfl ki_4 ?_
        refine biT_ne rfl (n_eq c4) ?_
        exact ow_ret rfl rfl rfl
      · refine qrt_ald rfl l0 ?_
        refine qow_gf rfl rfl rfl hlen rfl ?_
        refine qbcT_eq rfl (n_eq (b := 0) (k0_.mpr c4)) ?_
        exact RQ_refl
    · rcases b_line3 (vs := vs) (bv := bv) (pl := pl) (tk := tk) (td := td) (fp := fp) (qm := qm) hB hM hb hn hl t hP hDn lp ld lz hv hv1 hN hN2 bx ln with ⟨T, M, o2, v1, v2, v3, v4, li2, f, h1, h2⟩ | ⟨ho, k2, tk2, td2, T, M, v1, v2, v3, v4, li2, c2, bx2, ln2, h1, h2⟩
      · obtain ⟨a9, kd9, pl9, w9, le9, nu9, tk9, kk9, am9, fm9, kM9, nm9, sg9, fa9, qm9, wd9, td9, rfl, rfl, f9⟩ := f
        refine Or.inl ⟨tcl n lim a9 kd9 pl9 w9 le9 nu9 tk9 (Int32.ofNat kk9) (Int32.ofNat pl9), mcl (Int32.ofNat 0) (Int32.ofNat 0) n lim am9 fm9 kM9 nm9 sg9 fa9 qm9 wd9 td9 (posb vs o), o2, o, v1, v2, v3, v4, li2, (-2 : Int32) - qm9, ⟨a9, kd9, pl9, w9, le9, nu9, tk9, kk9, am9, fm9, kM9, nm9, sg9, fa9, qm9, wd9, td9, rfl, rfl, f9⟩, fun H dd L hlen l0 l1 l2 l3 => ?_, fun H dd L hlen l0 => ?_⟩
        · refine rt_ild rfl l3 ?_
          refine rt_bip rfl k8_40 ?_
          refine biF_gt rfl (n_nlt (by omega) (by omega)) ?_
          refine rt_ald rfl l1 ?_
          refine ow_gf rfl rfl rfl hlen rfl ?_
          refine rt_ico rfl ki_4 ?_
          refine biF_ne rfl (n_ne c4 (by omega) (by decide)) ?_
          exact h1 H dd _ hlen l0 l1 l2
        · refine rt_ald rfl l0 ?_
          refine ow_gf rfl rfl rfl hlen rfl ?_
          refine bcF_eq rfl (n_ne (b := 0) (fun e => c4 (k0_.mp e)) (by omega) (by decide)) ?_
          refine rt_ald rfl l0 ?_
          refine ow_iv1 (l2 := ((180, mcl (Int32.ofNat 0) (Int32.ofNat 0) n lim am9 fm9 kM9 nm9 sg9 fa9 qm9 wd9 td9 (posb vs o)) :: (181, mtl ts) :: [(182, ia nw), (187, lng nz), (200, ia li2)])) rfl rfl rfl rfl hlen rfl rfl rfl ((h2 H hlen).up (by omega)) rfl ?_
          refine bcT_ne rfl rfl ?_
          refine rt_bip rfl k8_m2 ?_
          refine rt_ald rfl l0 ?_
          refine ow_gf rfl rfl rfl hlen rfl ?_
          refine ba_isub rfl ?_
          exact ow_irt rfl rfl rfl
      · obtain ⟨a2, kd2, pl2, w2, le2, nu2, fp2, nm2, sg2, qm2, wd2, rfl, rfl, t2⟩ := c2
        have hq : ∀ (H : List AE) (dd : Nat) (L : List (Nat × Value)), Nat.ble 204 H.length = true → ev_g L 0 = some (.ref 180) → RQ (dd + 15) 181 30 L [] (ov H ((180, mcl (Int32.ofNat 0) (Int32.ofNat 0) n lim a pl (km kd) nm sg (Int32.ofNat 0) qm wd td (posb vs o)) :: (181, mtl ts) :: [(182, ia nw), (187, lng nz), (200, ia li)])) (30, L, [], ov H ((180, mcl (Int32.ofNat 0) (Int32.ofNat 0) n lim a2 pl2 (km kd2) nm2 sg2 (Int32.ofNat 0) qm2 wd2 td2 (posb vs (o + 1))) :: (181, mtl ts) :: [(182, ia nw), (187, lng nz), (200, ia li2)])) := fun H dd L hlen l0 => by
          refine qrt_ald rfl l0 ?_
          refine qow_gf rfl rfl rfl hlen rfl ?_
          refine qbcF_eq rfl (n_ne (b := 0) (fun e => c4 (k0_.mp e)) (by omega) (by decide)) ?_
          refine qrt_ald rfl l0 ?_
          refine qow_iv1 (l2 := ((180, mcl (Int32.ofNat 0) (Int32.ofNat 0) n lim a2 pl2 (km kd2) nm2 sg2 (Int32.ofNat 0) qm2 wd2 td2 (posb vs o)) :: (181, mtl ts) :: [(182, ia nw), (187, lng nz), (200, ia li2)])) rfl rfl rfl rfl hlen rfl rfl rfl ((h2 H hlen).up (by omega)) rfl ?_
          refine qbcF_ne rfl (by decide) ?_
          refine qrt_ald rfl l0 ?_
          refine RQ_step (pc2 := 54) rfl (fun _ _ => rfl) ?_
          refine qow_gf rfl rfl rfl hlen rfl ?_
          refine qrt_ico rfl ki_1 ?_
          refine qba_iadd rfl ?_
          rw [n_add]
          refine qow_pf (l2 := ((180, mcl (Int32.ofNat 0) (Int32.ofNat 0) n lim a2 pl2 (km kd2) nm2 sg2 (Int32.ofNat 0) qm2 wd2 td2 (posb vs (o + 1))) :: (181, mtl ts) :: [(182, ia nw), (187, lng nz), (200, ia li2)])) rfl rfl rfl rfl rfl hlen rfl rfl ?_
          refine RQ_step (pc2 := 30) rfl (fun _ _ => rfl) ?_
          exact RQ_refl
        rcases ih _ a2 kd2 pl2 w2 le2 nu2 tk2 td2 fp2 nm2 sg2 qm2 wd2 (o + 1) v1 v2 v3 v4 li2 (by omega) t2 bx2 ln2 with ⟨T, M, o3, lm, y1, y2, y3, y4, li3, rv, f, g1, g2⟩ | ⟨k3, tk3, td3, T, M, o3, lm, y1, y2, y3, y4, li3, c3, g1, g2⟩
        · refine Or.inl ⟨T, M, o3, lm, y1, y2, y3, y4, li3, rv, f, fun H dd L hlen l0 l1 l2 l3 => ?_, fun H dd L hlen l0 => RT_of (hq H dd L hlen l0) (g2 H dd L hlen l0)⟩
          refine rt_ild rfl l3 ?_
          refine rt_bip rfl k8_40 ?_
          refine biF_gt rfl (n_nlt (by omega) (by omega)) ?_
          refine rt_ald rfl l1 ?_
          refine ow_gf rfl rfl rfl hlen rfl ?_
          refine rt_ico rfl ki_4 ?_
          refine biF_ne rfl (n_ne c4 (by omega) (by decide)) ?_
          refine h1 H dd _ _ _ hlen l0 l1 l2 l3 (fun L2 l0 l1 l2 l3 => ?_)
          refine rt_inc rfl l3 (by decide +kernel) ?_
          rw [in_1]
          refine RT_step (pc2 := 14) rfl (fun _ _ => rfl) ?_
          exact g1 H dd _ hlen (gs_o rfl l0 rfl) (gs_o rfl l1 rfl) (gs_o rfl l2 rfl) gs_n
        · refine Or.inr ⟨k3, tk3, td3, T, M, o3, lm, y1, y2, y3, y4, li3, c3, fun H dd L hlen l0 l1 l2 l3 => ?_, fun H dd L hlen l0 => RQ_tr (hq H dd L hlen l0) (g2 H dd L hlen l0)⟩
          refine rt_ild rfl l3 ?_
          refine rt_bip rfl k8_40 ?_
          refine biF_gt rfl (n_nlt (by omega) (by omega)) ?_
          refine rt_ald rfl l1 ?_
          refine ow_gf rfl rfl rfl hlen rfl ?_
          refine rt_ico rfl ki_4 ?_
          refine biF_ne rfl (n_ne c4 (by omega) (by decide)) ?_
          refine h1 H dd _ _ _ hlen l0 l1 l2 l3 (fun L2 l0 l1 l2 l3 => ?_)
          refine rt_inc rfl l3 (by decide +kernel) ?_
          rw [in_1]
          refine RT_step (pc2 := 14) rfl (fun _ _ => rfl) ?_
          exact g1 H dd _ hlen (gs_o rfl l0 rfl) (gs_o rfl l1 rfl) (gs_o rfl l2 rfl) gs_n
theorem b_line13 {B : Nat → Nat} {bs ts : List Int32} {vs : Nat → Value} {bv : Nat → Int32} {n lim : Nat} {k a kd pl w : Nat} {le : Int64} {nu tk td fp nm sg qm : Int32} {wd : Int64} {o : Nat} {u1 u2 u3 u4 nw li : List Int32} {nz : List Int64} {P : Nat} {Dn : Nat} {lw : Int32} {cl : Int32} {id : Int32} {gl : Nat} {bo : Nat} {pn : List Int64} {ri : List Int32} {lf : List Int32} {wa : List Int32} {fo : List Int32} {dn : List Int64} {ha : List Int32} {pa : List Int32} {bl : List Int32} (hB : BY bs B) (hM : MY ts B) (hb : ∀ i, B i < 256) (hn : n ≤ 940) (hl : lim ≤ 940) (t : TF k n a kd w le nu nm sg wd) (hP : P ≤ 7) (hDn : Dn ≤ 8) (lp : pn.length = 7) (ld : dn.length = 8) (lz : nz.length = 15) (hv : nw[0]? = some (Int32.ofNat P)) (hv1 : nw[1]? = some (Int32.ofNat Dn)) (hN : ∀ i, i < P → ∃ ss, nok ss ∧ pn[i]? = some (p5 ss) ∧ nz[0 + i]? = some (p27 ss)) (hN2 : ∀ i, i < Dn → ∃ ss, nok ss ∧ dn[i]? = some (p5 ss) ∧ nz[7 + i]? = some (p27 ss)) (bx : BX o u1 u2 u3 u4) (ln : li.length = 160) : (∃ (T M : AE) (o2 : Nat) (v1 v2 v3 v4 li2 : List Int32), FC n lim (posb vs o) T M ∧ (∀ (H : List AE) (dd : Nat) (L : List (Nat × Value)), Nat.ble 204 H.length = true → ev_g L 0 = some (.ref 105) → ev_g L 1 = some (.ref 1) → ev_g L 2 = some (.ref 13) → RT MM (dd + 14) 54 29 L [] (ov H ((1, tcl n lim a kd pl w le nu tk (Int32.ofNat 0) fp) :: (2, bcl bs) :: [(13, dcl13 P Dn lw cl id gl bo), (14, lng pn), (15, ia ri), (16, ia lf), (17, ia wa), (18, ia fo), (19, lng dn), (20, ia ha), (21, ia pa), (22, ia bl), (105, bkc o bv), (106, ia u1), (107, ia u2), (108, ia u3), (109, ia u4)])) (none, ov H ((1, T) :: (2, bcl bs) :: [(13, dcl13 P Dn lw cl id gl bo), (14, lng pn), (15, ia ri), (16, ia lf), (17, ia wa), (18, ia fo), (19, lng dn), (20, ia ha), (21, ia pa), (22, ia bl), (105, bkc o2 bv), (106, ia v1), (107, ia v2), (108, ia v3), (109, ia v4)]))) ∧ ∀ H : List AE, Nat.ble 204 H.length = true → FR 15 246 [.ref 180] (ov H ((180, mcl (Int32.ofNat 0) (Int32.ofNat 0) n lim a pl (km kd) nm sg (Int32.ofNat 0) qm wd td (posb vs o)) :: (181, mtl ts) :: [(182, ia nw), (187, lng nz), (200, ia li)])) (some (.int (Int32.ofNat 0)), ov (ov H ((180, mcl (Int32.ofNat 0) (Int32.ofNat 0) n lim a pl (km kd) nm sg (Int32.ofNat 0) qm wd td (posb vs o)) :: (181, mtl ts) :: [(182, ia nw), (187, lng nz), (200, ia li)])) [(180, M), (200, ia li2)])) ∨ (o < 40 ∧ ∃ (k2 : Nat) (tk2 td2 : Int32) (T M : AE) (v1 v2 v3 v4 li2 : List Int32), TC n lim (posb vs o) k2 tk2 td2 T M ∧ BX (o + 1) v1 v2 v3 v4 ∧ li2.length = 160 ∧ (∀ (H : List AE) (dd : Nat) (L : List (Nat × Value)) (q : ev_R) (i : Int32), Nat.ble 204 H.length = true → ev_g L 0 = some (.ref 105) → ev_g L 1 = some (.ref 1) → ev_g L 2 = some (.ref 13) → ev_g L 3 = some (.int i) → (∀ L2, ev_g L2 0 = some (.ref 105) → ev_g L2 1 = some (.ref 1) → ev_g L2 2 = some (.ref 13) → ev_g L2 3 = some (.int i) → RT MM (dd + 14) 54 70 L2 [] (ov H ((1, T) :: (2, bcl bs) :: [(13, dcl13 P Dn lw cl id gl bo), (14, lng pn), (15, ia ri), (16, ia lf), (17, ia wa), (18, ia fo), (19, lng dn), (20, ia ha), (21, ia pa), (22, ia bl), (105, bkc (o + 1) bv), (106, ia v1), (107, ia v2), (108, ia v3), (109, ia v4)])) q) → RT MM (dd + 14) 54 29 L [] (ov H ((1, tcl n lim a kd pl w le nu tk (Int32.ofNat 0) fp) :: (2, bcl bs) :: [(13, dcl13 P Dn lw cl id gl bo), (14, lng pn), (15, ia ri), (16, ia lf), (17, ia wa), (18, ia fo), (19, lng dn), (20, ia ha), (21, ia pa), (22, ia bl), (105, bkc o bv), (106, ia u1), (107, ia u2), (108, ia u3), (109, ia u4)])) q) ∧ ∀ H : List AE, Nat.ble 204 H.length = true → FR 15 246 [.ref 180] (ov H ((180, mcl (Int32.ofNat 0) (Int32.ofNat 0) n lim a pl (km kd) nm sg (Int32.ofNat 0) qm wd td (posb vs o)) :: (181, mtl ts) :: [(182, ia nw), (187, lng nz), (200, ia li)])) (some (.int (Int32.ofNat 1)), ov (ov H ((180, mcl (Int32.ofNat 0) (Int32.ofNat 0) n lim a pl (km kd) nm sg (Int32.ofNat 0) qm wd td (posb vs o)) :: (181, mtl ts) :: [(182, ia nw), (187, lng nz), (200, ia li)])) [(180, M), (200, ia li2)])) := by
  have hw0 := t.2.2.2.2.1
  by_cases cd : w = 16
  · rcases b_day13 (vs := vs) (bv := bv) (pl := pl) (tk := tk) (td := td) (fp := fp) (qm := qm) hB hM hb hn hl t cd hP hDn lp ld lz hv hv1 hN hN2 bx ln with ⟨T, M, li2, f, ln2, h⟩ | ⟨ho, k2, tk2, td2, T, M, v1, v2, v3, v4, li2, c2, bx2, ln2, h1, h2⟩
    · refine Or.inl ⟨T, M, o, u1, u2, u3, u4, li2, f, fun H dd L hlen l0 l1 l2 => ?_, fun H hlen => (h.2 H hlen).up (by omega)⟩
      refine rt_ald rfl l1 ?_
      refine ow_gf rfl rfl rfl hlen rfl ?_
      refine RT_step (pc2 := 36) rfl (fun _ _ => rfl) ?_
      refine rt_acN rfl (by omega) (by omega) ?_
      refine RT_if cd ?_
      refine rt_ald rfl l0 ?_
      refine rt_ald rfl l1 ?_
      refine ow_iv1 (l2 := ((1, T) :: (2, bcl bs) :: [(13, dcl13 P Dn lw cl id gl bo), (14, lng pn), (15, ia ri), (16, ia lf), (17, ia wa), (18, ia fo), (19, lng dn), (20, ia ha), (21, ia pa), (22, ia bl), (105, bkc o bv), (106, ia u1), (107, ia u2), (108, ia u3), (109, ia u4)])) rfl rfl rfl rfl hlen rfl rfl rfl ((h.1 H hlen).up (by omega)) rfl ?_
      refine RT_step (pc2 := 53) rfl (fun _ _ => rfl) ?_
      refine rt_is2 rfl (by decide +kernel) ?_
      refine rt_il2 rfl gs_n ?_
      refine bcT_eq rfl rfl ?_
      exact ow_ret rfl rfl rfl
    · obtain ⟨a2, kd2, pl2, w2, le2, nu2, fp2, nm2, sg2, qm2, wd2, rfl, rfl, t2⟩ := c2
      rcases s_end hB hM hb hn hl (po := (posb vs o)) (pl := pl2) (tk := tk2) (td := td2) (fp := fp2) (plM := qm2) t2 with ⟨T5, M5, f, hx, hm⟩ | ⟨T5, M5, c5, hx, hm⟩
      · refine Or.inl ⟨T5, M5, o + 1, v1, v2, v3, v4, li2, f, fun H dd L hlen l0 l1 l2 => ?_, fun H hlen => ?_⟩
        · refine rt_ald rfl l1 ?_
          refine ow_gf rfl rfl rfl hlen rfl ?_
          refine RT_step (pc2 := 36) rfl (fun _ _ => rfl) ?_
          refine rt_acN rfl (by omega) (by omega) ?_
          refine RT_if cd ?_
          refine rt_ald rfl l0 ?_
          refine rt_ald rfl l1 ?_
          refine ow_iv1 (l2 := ((1, tcl n lim a2 kd2 pl2 w2 le2 nu2 tk2 (Int32.ofNat 0) fp2) :: (2, bcl bs) :: [(13, dcl13 P Dn lw cl id gl bo), (14, lng pn), (15, ia ri), (16, ia lf), (17, ia wa), (18, ia fo), (19, lng dn), (20, ia ha), (21, ia pa), (22, ia bl), (105, bkc (o + 1) bv), (106, ia v1), (107, ia v2), (108, ia v3), (109, ia v4)])) rfl rfl rfl rfl hlen rfl rfl rfl ((h1 H hlen).up (by omega)) rfl ?_
          refine RT_step (pc2 := 53) rfl (fun _ _ => rfl) ?_
          refine rt_is2 rfl (by decide +kernel) ?_
          refine rt_il2 rfl gs_n ?_
          refine bcF_eq rfl (by decide) ?_
          refine rt_ald rfl (gs_o rfl l1 rfl) ?_
          refine rt_bip rfl k8_59 ?_
          refine ow_iv1 (l2 := ((1, T5) :: (2, bcl bs) :: [(13, dcl13 P Dn lw cl id gl bo), (14, lng pn), (15, ia ri), (16, ia lf), (17, ia wa), (18, ia fo), (19, lng dn), (20, ia ha), (21, ia pa), (22, ia bl), (105, bkc (o + 1) bv), (106, ia v1), (107, ia v2), (108, ia v3), (109, ia v4)])) rfl rfl rfl rfl hlen rfl rfl rfl ((hx _ (ov_hl hlen) (ov_at rfl (ov_lt hlen (by decide))) (ov_at rfl (ov_lt hlen (by decide)))).up (by omega)) rfl ?_
          refine bcT_ne rfl rfl ?_
          exact ow_ret rfl rfl rfl
        · refine FR_st2 (l2 := ((180, M5) :: (181, mtl ts) :: [(182, ia nw), (187, lng nz), (200, ia li2)])) rfl rfl rfl ?_
          refine h2 H 1 _ hlen (fun L2 l0 => ?_)
          refine rt_ald rfl l0 ?_
          refine ow_iv1 (l2 := ((180, M5) :: (181, mtl ts) :: [(182, ia nw), (187, lng nz), (200, ia li2)])) rfl rfl rfl rfl hlen rfl rfl rfl ((hm _ (ov_hl hlen) (ov_at rfl (ov_lt hlen (by decide))) (ov_at rfl (ov_lt hlen (by decide)))).up (by omega)) rfl ?_
          refine bcT_eq rfl rfl ?_
          refine rt_ico rfl ki_0 ?_
          exact ow_irt rfl rfl rfl
      · refine Or.inr ⟨ho, _, tk2, td2, T5, M5, v1, v2, v3, v4, li2, c5, bx2, ln2, fun H dd L q i hlen l0 l1 l2 l3 hq => ?_, fun H hlen => ?_⟩
        · refine rt_ald rfl l1 ?_
          refine ow_gf rfl rfl rfl hlen rfl ?_
          refine RT_step (pc2 := 36) rfl (fun _ _ => rfl) ?_
          refine rt_acN rfl (by omega) (by omega) ?_
          refine RT_if cd ?_
          refine rt_ald rfl l0 ?_
          refine rt_ald rfl l1 ?_
          refine ow_iv1 (l2 := ((1, tcl n lim a2 kd2 pl2 w2 le2 nu2 tk2 (Int32.ofNat 0) fp2) :: (2, bcl bs) :: [(13, dcl13 P Dn lw cl id gl bo), (14, lng pn), (15, ia ri), (16, ia lf), (17, ia wa), (18, ia fo), (19, lng dn), (20, ia ha), (21, ia pa), (22, ia bl), (105, bkc (o + 1) bv), (106, ia v1), (107, ia v2), (108, ia v3), (109, ia v4)])) rfl rfl rfl rfl hlen rfl rfl rfl ((h1 H hlen).up (by omega)) rfl ?_
          refine RT_step (pc2 := 53) rfl (fun _ _ => rfl) ?_
          refine rt_is2 rfl (by decide +kernel) ?_
          refine rt_il2 rfl gs_n ?_
          refine bcF_eq rfl (by decide) ?_
          refine rt_ald rfl (gs_o rfl l1 rfl) ?_
          refine rt_bip rfl k8_59 ?_
          refine ow_iv1 (l2 := ((1, T5) :: (2, bcl bs) :: [(13, dcl13 P Dn lw cl id gl bo), (14, lng pn), (15, ia ri), (16, ia lf), (17, ia wa), (18, ia fo), (19, lng dn), (20, ia ha), (21, ia pa), (22, ia bl), (105, bkc (o + 1) bv), (106, ia v1), (107, ia v2), (108, ia v3), (109, ia v4)])) rfl rfl rfl rfl hlen rfl rfl rfl ((hx _ (ov_hl hlen) (ov_at rfl (ov_lt hlen (by decide))) (ov_at rfl (ov_lt hlen (by decide)))).up (by omega)) rfl ?_
          refine bcF_ne rfl (by decide) ?_
          exact hq _ (gs_o rfl l0 rfl) (gs_o rfl l1 rfl) (gs_o rfl l2 rfl) (gs_o rfl l3 rfl)
        · refine FR_st2 (l2 := ((180, M5) :: (181, mtl ts) :: [(182, ia nw), (187, lng nz), (200, ia li2)])) rfl rfl rfl ?_
          refine h2 H 1 _ hlen (fun L2 l0 => ?_)
          refine rt_ald rfl l0 ?_
          refine ow_iv1 (l2 := ((180, M5) :: (181, mtl ts) :: [(182, ia nw), (187, lng nz), (200, ia li2)])) rfl rfl rfl rfl hlen rfl rfl rfl ((hm _ (ov_hl hlen) (ov_at rfl (ov_lt hlen (by decide))) (ov_at rfl (ov_lt hlen (by decide)))).up (by omega)) rfl ?_
          refine bcF_eq rfl (by decide) ?_
          refine rt_ico rfl ki_1 ?_
          refine RT_step (pc2 := 181) rfl (fun _ _ => rfl) ?_
          exact ow_irt rfl rfl rfl
  · rcases b_act13 (vs := vs) (bv := bv) (pl := pl) (tk := tk) (td := td) (fp := fp) (qm := qm) hB hM hb hn hl t cd hP hDn lp ld lz hv hv1 hN hN2 bx ln with ⟨T, M, li2, f, ln2, h⟩ | ⟨ho, k2, tk2, td2, T, M, v1, v2, v3, v4, li2, c2, bx2, ln2, h1, h2⟩
    · refine Or.inl ⟨T, M, o, u1, u2, u3, u4, li2, f, fun H dd L hlen l0 l1 l2 => ?_, fun H hlen => (h.2 H hlen).up (by omega)⟩
      refine rt_ald rfl l1 ?_
      refine ow_gf rfl rfl rfl hlen rfl ?_
      refine RT_step (pc2 := 36) rfl (fun _ _ => rfl) ?_
      refine rt_acN rfl (by omega) (by omega) ?_
      refine RT_el cd ?_
      refine rt_ald rfl l0 ?_
      refine rt_ald rfl l1 ?_
      refine rt_ald rfl l2 ?_
      refine ow_iv1 (l2 := ((1, T) :: (2, bcl bs) :: [(13, dcl13 P Dn lw cl id gl bo), (14, lng pn), (15, ia ri), (16, ia lf), (17, ia wa), (18, ia fo), (19, lng dn), (20, ia ha), (21, ia pa), (22, ia bl), (105, bkc o bv), (106, ia u1), (107, ia u2), (108, ia u3), (109, ia u4)])) rfl rfl rfl rfl hlen rfl rfl rfl ((h.1 H hlen).up (by omega)) rfl ?_
      refine rt_is2 rfl (by decide +kernel) ?_
      refine rt_il2 rfl gs_n ?_
      refine bcT_eq rfl rfl ?_
      exact ow_ret rfl rfl rfl
    · obtain ⟨a2, kd2, pl2, w2, le2, nu2, fp2, nm2, sg2, qm2, wd2, rfl, rfl, t2⟩ := c2
      rcases s_end hB hM hb hn hl (po := (posb vs o)) (pl := pl2) (tk := tk2) (td := td2) (fp := fp2) (plM := qm2) t2 with ⟨T5, M5, f, hx, hm⟩ | ⟨T5, M5, c5, hx, hm⟩
      · refine Or.inl ⟨T5, M5, o + 1, v1, v2, v3, v4, li2, f, fun H dd L hlen l0 l1 l2 => ?_, fun H hlen => ?_⟩
        · refine rt_ald rfl l1 ?_
          refine ow_gf rfl rfl rfl hlen rfl ?_
          refine RT_step (pc2 := 36) rfl (fun _ _ => rfl) ?_
          refine rt_acN rfl (by omega) (by omega) ?_
          refine RT_el cd ?_
          refine rt_ald rfl l0 ?_
          refine rt_ald rfl l1 ?_
          refine rt_ald rfl l2 ?_
          refine ow_iv1 (l2 := ((1, tcl n lim a2 kd2 pl2 w2 le2 nu2 tk2 (Int32.ofNat 0) fp2) :: (2, bcl bs) :: [(13, dcl13 P Dn lw cl id gl bo), (14, lng pn), (15, ia ri), (16, ia lf), (17, ia wa), (18, ia fo), (19, lng dn), (20, ia ha), (21, ia pa), (22, ia bl), (105, bkc (o + 1) bv), (106, ia v1), (107, ia v2), (108, ia v3), (109, ia v4)])) rfl rfl rfl rfl hlen rfl rfl rfl ((h1 H hlen).up (by omega)) rfl ?_
          refine rt_is2 rfl (by decide +kernel) ?_
          refine rt_il2 rfl gs_n ?_
          refine bcF_eq rfl (by decide) ?_
          refine rt_ald rfl (gs_o rfl l1 rfl) ?_
          refine rt_bip rfl k8_59 ?_
          refine ow_iv1 (l2 := ((1, T5) :: (2, bcl bs) :: [(13, dcl13 P Dn lw cl id gl bo), (14, lng pn), (15, ia ri), (16, ia lf), (17, ia wa), (18, ia fo), (19, lng dn), (20, ia ha), (21, ia pa), (22, ia bl), (105, bkc (o + 1) bv), (106, ia v1), (107, ia v2), (108, ia v3), (109, ia v4)])) rfl rfl rfl rfl hlen rfl rfl rfl ((hx _ (ov_hl hlen) (ov_at rfl (ov_lt hlen (by decide))) (ov_at rfl (ov_lt hlen (by decide)))).up (by omega)) rfl ?_
          refine bcT_ne rfl rfl ?_
          exact ow_ret rfl rfl rfl
        · refine FR_st2 (l2 := ((180, M5) :: (181, mtl ts) :: [(182, ia nw), (187, lng nz), (200, ia li2)])) rfl rfl rfl ?_
          refine h2 H 1 _ hlen (fun L2 l0 => ?_)
          refine rt_ald rfl l0 ?_
          refine ow_iv1 (l2 := ((180, M5) :: (181, mtl ts) :: [(182, ia nw), (187, lng nz), (200, ia li2)])) rfl rfl rfl rfl hlen rfl rfl rfl ((hm _ (ov_hl hlen) (ov_at rfl (ov_lt hlen (by decide))) (ov_at rfl (ov_lt hlen (by decide)))).up (by omega)) rfl ?_
          refine bcT_eq rfl rfl ?_
          refine rt_ico rfl ki_0 ?_
          exact ow_irt rfl rfl rfl
      · refine Or.inr ⟨ho, _, tk2, td2, T5, M5, v1, v2, v3, v4, li2, c5, bx2, ln2, fun H dd L q i hlen l0 l1 l2 l3 hq => ?_, fun H hlen => ?_⟩
        · refine rt_ald rfl l1 ?_
          refine ow_gf rfl rfl rfl hlen rfl ?_
          refine RT_step (pc2 := 36) rfl (fun _ _ => rfl) ?_
          refine rt_acN rfl (by omega) (by omega) ?_
          refine RT_el cd ?_
          refine rt_ald rfl l0 ?_
          refine rt_ald rfl l1 ?_
          refine rt_ald rfl l2 ?_
          refine ow_iv1 (l2 := ((1, tcl n lim a2 kd2 pl2 w2 le2 nu2 tk2 (Int32.ofNat 0) fp2) :: (2, bcl bs) :: [(13, dcl13 P Dn lw cl id gl bo), (14, lng pn), (15, ia ri), (16, ia lf), (17, ia wa), (18, ia fo), (19, lng dn), (20, ia ha), (21, ia pa), (22, ia bl), (105, bkc (o + 1) bv), (106, ia v1), (107, ia v2), (108, ia v3), (109, ia v4)])) rfl rfl rfl rfl hlen rfl rfl rfl ((h1 H hlen).up (by omega)) rfl ?_
          refine rt_is2 rfl (by decide +kernel) ?_
          refine rt_il2 rfl gs_n ?_
          refine bcF_eq rfl (by decide) ?_
          refine rt_ald rfl (gs_o rfl l1 rfl) ?_
          refine rt_bip rfl k8_59 ?_
          refine ow_iv1 (l2 := ((1, T5) :: (2, bcl bs) :: [(13, dcl13 P Dn lw cl id gl bo), (14, lng pn), (15, ia ri), (16, ia lf), (17, ia wa), (18, ia fo), (19, lng dn), (20, ia ha), (21, ia pa), (22, ia bl), (105, bkc (o + 1) bv), (106, ia v1), (107, ia v2), (108, ia v3), (109, ia v4)])) rfl rfl rfl rfl hlen rfl rfl rfl ((hx _ (ov_hl hlen) (ov_at rfl (ov_lt hlen (by decide))) (ov_at rfl (ov_lt hlen (by decide)))).up (by omega)) rfl ?_
          refine bcF_ne rfl (by decide) ?_
          exact hq _ (gs_o rfl l0 rfl) (gs_o rfl l1 rfl) (gs_o rfl l2 rfl) (gs_o rfl l3 rfl)
        · refine FR_st2 (l2 := ((180, M5) :: (181, mtl ts) :: [(182, ia nw), (187, lng nz), (200, ia li2)])) rfl rfl rfl ?_
          refine h2 H 1 _ hlen (fun L2 l0 => ?_)
          refine rt_ald rfl l0 ?_
          refine ow_iv1 (l2 := ((180, M5) :: (181, mtl ts) :: [(182, ia nw), (187, lng nz), (200, ia li2)])) rfl rfl rfl rfl hlen rfl rfl rfl ((hm _ (ov_hl hlen) (ov_at rfl (ov_lt hlen (by decide))) (ov_at rfl (ov_lt hlen (by decide)))).up (by omega)) rfl ?_
          refine bcF_eq rfl (by decide) ?_
          refine rt_ico rfl ki_1 ?_
          refine RT_step (pc2 := 181) rfl (fun _ _ => rfl) ?_
          exact ow_irt rfl rfl rfl
theorem b_loop13 {B : Nat → Nat} {bs ts : List Int32} {vs : Nat → Value} {bv : Nat → Int32} {n lim : Nat} {nw : List Int32} {nz : List Int64} {P : Nat} {Dn : Nat} {lw : Int32} {cl : Int32} {id : Int32} {gl : Nat} {bo : Nat} {pn : List Int64} {ri : List Int32} {lf : List Int32} {wa : List Int32} {fo : List Int32} {dn : List Int64} {ha : List Int32} {pa : List Int32} {bl : List Int32} (hB : BY bs B) (hM : MY ts B) (hb : ∀ i, B i < 256) (hn : n ≤ 940) (hl : lim ≤ 940) (hP : P ≤ 7) (hDn : Dn ≤ 8) (lp : pn.length = 7) (ld : dn.length = 8) (lz : nz.length = 15) (hv : nw[0]? = some (Int32.ofNat P)) (hv1 : nw[1]? = some (Int32.ofNat Dn)) (hN : ∀ i, i < P → ∃ ss, nok ss ∧ pn[i]? = some (p5 ss) ∧ nz[0 + i]? = some (p27 ss)) (hN2 : ∀ i, i < Dn → ∃ ss, nok ss ∧ dn[i]? = some (p5 ss) ∧ nz[7 + i]? = some (p27 ss)) : ∀ (r k a kd pl w : Nat) (le : Int64) (nu tk td fp nm sg qm : Int32) (wd : Int64) (o : Nat) (u1 u2 u3 u4 li : List Int32), o + r = 40 → TF k n a kd w le nu nm sg wd → BX o u1 u2 u3 u4 → li.length = 160 → (∃ (T M : AE) (o2 lm : Nat) (v1 v2 v3 v4 li2 : List Int32) (rv : Int32), FC n lim (posb vs lm) T M ∧ (∀ (H : List AE) (dd : Nat) (L : List (Nat × Value)), Nat.ble 204 H.length = true → ev_g L 0 = some (.ref 105) → ev_g L 1 = some (.ref 1) → ev_g L 2 = some (.ref 13) → ev_g L 3 = some (.int (Int32.ofNat o)) → RT MM (dd + 14) 54 14 L [] (ov H ((1, tcl n lim a kd pl w le nu tk (Int32.ofNat 0) fp) :: (2, bcl bs) :: [(13, dcl13 P Dn lw cl id gl bo), (14, lng pn), (15, ia ri), (16, ia lf), (17, ia wa), (18, ia fo), (19, lng dn), (20, ia ha), (21, ia pa), (22, ia bl), (105, bkc o bv), (106, ia u1), (107, ia u2), (108, ia u3), (109, ia u4)])) (none, ov H ((1, T) :: (2, bcl bs) :: [(13, dcl13 P Dn lw cl id gl bo), (14, lng pn), (15, ia ri), (16, ia lf), (17, ia wa), (18, ia fo), (19, lng dn), (20, ia ha), (21, ia pa), (22, ia bl), (105, bkc o2 bv), (106, ia v1), (107, ia v2), (108, ia v3), (109, ia v4)]))) ∧ ∀ (H : List AE) (dd : Nat) (L : List (Nat × Value)), Nat.ble 204 H.length = true → ev_g L 0 = some (.ref 180) → RT MM (dd + 15) 181 30 L [] (ov H ((180, mcl (Int32.ofNat 0) (Int32.ofNat 0) n lim a pl (km kd) nm sg (Int32.ofNat 0) qm wd td (posb vs o)) :: (181, mtl ts) :: [(182, ia nw), (187, lng nz), (200, ia li)])) (some (.int rv), ov H ((180, M) :: (181, mtl ts) :: [(182, ia nw), (187, lng nz), (200, ia li2)]))) ∨ (∃ (k2 : Nat) (tk2 td2 : Int32) (T M : AE) (o2 lm : Nat) (v1 v2 v3 v4 li2 : List Int32), TC n lim (posb vs lm) k2 tk2 td2 T M ∧ (∀ (H : List AE) (dd : Nat) (L : List (Nat × Value)), Nat.ble 204 H.length = true → ev_g L 0 = some (.ref 105) → ev_g L 1 = some (.ref 1) → ev_g L 2 = some (.ref 13) → ev_g L 3 = some (.int (Int32.ofNat o)) → RT MM (dd + 14) 54 14 L [] (ov H ((1, tcl n lim a kd pl w le nu tk (Int32.ofNat 0) fp) :: (2, bcl bs) :: [(13, dcl13 P Dn lw cl id gl bo), (14, lng pn), (15, ia ri), (16, ia lf), (17, ia wa), (18, ia fo), (19, lng dn), (20, ia ha), (21, ia pa), (22, ia bl), (105, bkc o bv), (106, ia u1), (107, ia u2), (108, ia u3), (109, ia u4)])) (none, ov H ((1, T) :: (2, bcl bs) :: [(13, dcl13 P Dn lw cl id gl bo), (14, lng pn), (15, ia ri), (16, ia lf), (17, ia wa), (18, ia fo), (19, lng dn), (20, ia ha), (21, ia pa), (22, ia bl), (105, bkc o2 bv), (106, ia v1), (107, ia v2), (108, ia v3), (109, ia v4)]))) ∧ ∀ (H : List AE) (dd : Nat) (L : List (Nat × Value)), Nat.ble 204 H.length = true → ev_g L 0 = some (.ref 180) → RQ (dd + 15) 181 30 L [] (ov H ((180, mcl (Int32.ofNat 0) (Int32.ofNat 0) n lim a pl (km kd) nm sg (Int32.ofNat 0) qm wd td (posb vs o)) :: (181, mtl ts) :: [(182, ia nw), (187, lng nz), (200, ia li)])) (65, L, [], ov H ((180, M) :: (181, mtl ts) :: [(182, ia nw), (187, lng nz), (200, ia li2)]))) := by
  intro r
  induction r with
  | zero =>
    intro k a kd pl w le nu tk td fp nm sg qm wd o u1 u2 u3 u4 li hr t bx ln
    obtain ⟨-, -, -, -, k0_, k10⟩ := km_is kd t.2.2.2.1
    have hk5 := t.2.2.2.1
    by_cases c4 : kd = 4
    · refine Or.inr ⟨k, tk, td, tcl n lim a kd pl w le nu tk (Int32.ofNat 0) fp, mcl (Int32.ofNat 0) (Int32.ofNat 0) n lim a pl (km kd) nm sg (Int32.ofNat 0) qm wd td (posb vs o), o, o, u1, u2, u3, u4, li, tf_td t, fun H dd L hlen l0 l1 l2 l3 => ?_, fun H dd L hlen l0 => ?_⟩
      · refine rt_ild rfl l3 ?_
        refine rt_bip rfl k8_40 ?_
        refine biF_gt rfl (n_nlt (by omega) (by omega)) ?_
        refine rt_ald rfl l1 ?_
        refine ow_gf rfl rfl rfl hlen rfl ?_
        refine rt_ico rfl ki_4 ?_
        refine biT_ne rfl (n_eq c4) ?_
        exact ow_ret rfl rfl rfl
      · refine qrt_ald rfl l0 ?_
        refine qow_gf rfl rfl rfl hlen rfl ?_
        refine qbcT_eq rfl (n_eq (b := 0) (k0_.mpr c4)) ?_
        exact RQ_refl
    · rcases b_line13 (vs := vs) (bv := bv) (pl := pl) (tk := tk) (td := td) (fp := fp) (qm := qm) hB hM hb hn hl t hP hDn lp ld lz hv hv1 hN hN2 bx ln with ⟨T, M, o2, v1, v2, v3, v4, li2, f, h1, h2⟩ | ⟨ho, k2, tk2, td2, T, M, v1, v2, v3, v4, li2, c2, bx2, ln2, h1, h2⟩
      · obtain ⟨a9, kd9, pl9, w9, le9, nu9, tk9, kk9, am9, fm9, kM9, nm9, sg9, fa9, qm9, wd9, td9, rfl, rfl, f9⟩ := f
        refine Or.inl ⟨tcl n lim a9 kd9 pl9 w9 le9 nu9 tk9 (Int32.ofNat kk9) (Int32.ofNat pl9), mcl (Int32.ofNat 0) (Int32.ofNat 0) n lim am9 fm9 kM9 nm9 sg9 fa9 qm9 wd9 td9 (posb vs o), o2, o, v1, v2, v3, v4, li2, (-2 : Int32) - qm9, ⟨a9, kd9, pl9, w9, le9, nu9, tk9, kk9, am9, fm9, kM9, nm9, sg9, fa9, qm9, wd9, td9, rfl, rfl, f9⟩, fun H dd L hlen l0 l1 l2 l3 => ?_, fun H dd L hlen l0 => ?_⟩
        · refine rt_ild rfl l3 ?_
          refine rt_bip rfl k8_40 ?_
          refine biF_gt rfl (n_nlt (by omega) (by omega)) ?_
          refine rt_ald rfl l1 ?_
          refine ow_gf rfl rfl rfl hlen rfl ?_
          refine rt_ico rfl ki_4 ?_
          refine biF_ne rfl (n_ne c4 (by omega) (by decide)) ?_
          exact h1 H dd _ hlen l0 l1 l2
        · refine rt_ald rfl l0 ?_
          refine ow_gf rfl rfl rfl hlen rfl ?_
          refine bcF_eq rfl (n_ne (b := 0) (fun e => c4 (k0_.mp e)) (by omega) (by decide)) ?_
          refine rt_ald rfl l0 ?_
          refine ow_iv1 (l2 := ((180, mcl (Int32.ofNat 0) (Int32.ofNat 0) n lim am9 fm9 kM9 nm9 sg9 fa9 qm9 wd9 td9 (posb vs o)) :: (181, mtl ts) :: [(182, ia nw), (187, lng nz), (200, ia li2)])) rfl rfl rfl rfl hlen rfl rfl rfl ((h2 H hlen).up (by omega)) rfl ?_
          refine bcT_ne rfl rfl ?_
          refine rt_bip rfl k8_m2 ?_
          refine rt_ald rfl l0 ?_
          refine ow_gf rfl rfl rfl hlen rfl ?_
          refine ba_isub rfl ?_
          exact ow_irt rfl rfl rfl
      · omega
  | succ r ih =>
    intro k a kd pl w le nu tk td fp nm sg qm wd o u1 u2 u3 u4 li hr t bx ln
    obtain ⟨-, -, -, -, k0_, k10⟩ := km_is kd t.2.2.2.1
    have hk5 := t.2.2.2.1
    by_cases c4 : kd = 4
    · refine Or.inr ⟨k, tk, td, tcl n lim a kd pl w le nu tk (Int32.ofNat 0) fp, mcl (Int32.ofNat 0) (Int32.ofNat 0) n lim a pl (km kd) nm sg (Int32.ofNat 0) qm wd td (posb vs o), o, o, u1, u2, u3, u4, li, tf_td t, fun H dd L hlen l0 l1 l2 l3 => ?_, fun H dd L hlen l0 => ?_⟩
      · refine rt_ild rfl l3 ?_
        refine rt_bip rfl k8_40 ?_
        refine biF_gt rfl (n_nlt (by omega) (by omega)) ?_
        refine rt_ald rfl l1 ?_
        refine ow_gf rfl rfl rfl hlen rfl ?_
        refine rt_ico rfl ki_4 ?_
        refine biT_ne rfl (n_eq c4) ?_
        exact ow_ret rfl rfl rfl
      · refine qrt_ald rfl l0 ?_
        refine qow_gf rfl rfl rfl hlen rfl ?_
        refine qbcT_eq rfl (n_eq (b := 0) (k0_.mpr c4)) ?_
        exact RQ_refl
    · rcases b_line13 (vs := vs) (bv := bv) (pl := pl) (tk := tk) (td := td) (fp := fp) (qm := qm) hB hM hb hn hl t hP hDn lp ld lz hv hv1 hN hN2 bx ln with ⟨T, M, o2, v1, v2, v3, v4, li2, f, h1, h2⟩ | ⟨ho, k2, tk2, td2, T, M, v1, v2, v3, v4, li2, c2, bx2, ln2, h1, h2⟩
      · obtain ⟨a9, kd9, pl9, w9, le9, nu9, tk9, kk9, am9, fm9, kM9, nm9, sg9, fa9, qm9, wd9, td9, rfl, rfl, f9⟩ := f
        refine Or.inl ⟨tcl n lim a9 kd9 pl9 w9 le9 nu9 tk9 (Int32.ofNat kk9) (Int32.ofNat pl9), mcl (Int32.ofNat 0) (Int32.ofNat 0) n lim am9 fm9 kM9 nm9 sg9 fa9 qm9 wd9 td9 (posb vs o), o2, o, v1, v2, v3, v4, li2, (-2 : Int32) - qm9, ⟨a9, kd9, pl9, w9, le9, nu9, tk9, kk9, am9, fm9, kM9, nm9, sg9, fa9, qm9, wd9, td9, rfl, rfl, f9⟩, fun H dd L hlen l0 l1 l2 l3 => ?_, fun H dd L hlen l0 => ?_⟩
        · refine rt_ild rfl l3 ?_
          refine rt_bip rfl k8_40 ?_
          refine biF_gt rfl (n_nlt (by omega) (by omega)) ?_
          refine rt_ald rfl l1 ?_
          refine ow_gf rfl rfl rfl hlen rfl ?_
          refine rt_ico rfl ki_4 ?_
          refine biF_ne rfl (n_ne c4 (by omega) (by decide)) ?_
          exact h1 H dd _ hlen l0 l1 l2
        · refine rt_ald rfl l0 ?_
          refine ow_gf rfl rfl rfl hlen rfl ?_
          refine bcF_eq rfl (n_ne (b := 0) (fun e => c4 (k0_.mp e)) (by omega) (by decide)) ?_
          refine rt_ald rfl l0 ?_
          refine ow_iv1 (l2 := ((180, mcl (Int32.ofNat 0) (Int32.ofNat 0) n lim am9 fm9 kM9 nm9 sg9 fa9 qm9 wd9 td9 (posb vs o)) :: (181, mtl ts) :: [(182, ia nw), (187, lng nz), (200, ia li2)])) rfl rfl rfl rfl hlen rfl rfl rfl ((h2 H hlen).up (by omega)) rfl ?_
          refine bcT_ne rfl rfl ?_
          refine rt_bip rfl k8_m2 ?_
          refine rt_ald rfl l0 ?_
          refine ow_gf rfl rfl rfl hlen rfl ?_
          refine ba_isub rfl ?_
          exact ow_irt rfl rfl rfl
      · obtain ⟨a2, kd2, pl2, w2, le2, nu2, fp2, nm2, sg2, qm2, wd2, rfl, rfl, t2⟩ := c2
        have hq : ∀ (H : List AE) (dd : Nat) (L : List (Nat × Value)), Nat.ble 204 H.length = true → ev_g L 0 = some (.ref 180) → RQ (dd + 15) 181 30 L [] (ov H ((180, mcl (Int32.ofNat 0) (Int32.ofNat 0) n lim a pl (km kd) nm sg (Int32.ofNat 0) qm wd td (posb vs o)) :: (181, mtl ts) :: [(182, ia nw), (187, lng nz), (200, ia li)])) (30, L, [], ov H ((180, mcl (Int32.ofNat 0) (Int32.ofNat 0) n lim a2 pl2 (km kd2) nm2 sg2 (Int32.ofNat 0) qm2 wd2 td2 (posb vs (o + 1))) :: (181, mtl ts) :: [(182, ia nw), (187, lng nz), (200, ia li2)])) := fun H dd L hlen l0 => by
          refine qrt_ald rfl l0 ?_
          refine qow_gf rfl rfl rfl hlen rfl ?_
          refine qbcF_eq rfl (n_ne (b := 0) (fun e => c4 (k0_.mp e)) (by omega) (by decide)) ?_
          refine qrt_ald rfl l0 ?_
          refine qow_iv1 (l2 := ((180, mcl (Int32.ofNat 0) (Int32.ofNat 0) n lim a2 pl2 (km kd2) nm2 sg2 (Int32.ofNat 0) qm2 wd2 td2 (posb vs o)) :: (181, mtl ts) :: [(182, ia nw), (187, lng nz), (200, ia li2)])) rfl rfl rfl rfl hlen rfl rfl rfl ((h2 H hlen).up (by omega)) rfl ?_
          refine qbcF_ne rfl (by decide) ?_
          refine qrt_ald rfl l0 ?_
          refine RQ_step (pc2 := 54) rfl (fun _ _ => rfl) ?_
          refine qow_gf rfl rfl rfl hlen rfl ?_
          refine qrt_ico rfl ki_1 ?_
          refine qba_iadd rfl ?_
          rw [n_add]
          refine qow_pf (l2 := ((180, mcl (Int32.ofNat 0) (Int32.ofNat 0) n lim a2 pl2 (km kd2) nm2 sg2 (Int32.ofNat 0) qm2 wd2 td2 (posb vs (o + 1))) :: (181, mtl ts) :: [(182, ia nw), (187, lng nz), (200, ia li2)])) rfl rfl rfl rfl rfl hlen rfl rfl ?_
          refine RQ_step (pc2 := 30) rfl (fun _ _ => rfl) ?_
          exact RQ_refl
        rcases ih _ a2 kd2 pl2 w2 le2 nu2 tk2 td2 fp2 nm2 sg2 qm2 wd2 (o + 1) v1 v2 v3 v4 li2 (by omega) t2 bx2 ln2 with ⟨T, M, o3, lm, y1, y2, y3, y4, li3, rv, f, g1, g2⟩ | ⟨k3, tk3, td3, T, M, o3, lm, y1, y2, y3, y4, li3, c3, g1, g2⟩
        · refine Or.inl ⟨T, M, o3, lm, y1, y2, y3, y4, li3, rv, f, fun H dd L hlen l0 l1 l2 l3 => ?_, fun H dd L hlen l0 => RT_of (hq H dd L hlen l0) (g2 H dd L hlen l0)⟩
          refine rt_ild rfl l3 ?_
          refine rt_bip rfl k8_40 ?_
          refine biF_gt rfl (n_nlt (by omega) (by omega)) ?_
          refine rt_ald rfl l1 ?_
          refine ow_gf rfl rfl rfl hlen rfl ?_
          refine rt_ico rfl ki_4 ?_
          refine biF_ne rfl (n_ne c4 (by omega) (by decide)) ?_
          refine h1 H dd _ _ _ hlen l0 l1 l2 l3 (fun L2 l0 l1 l2 l3 => ?_)
          refine rt_inc rfl l3 (by decide +kernel) ?_
          rw [in_1]
          refine RT_step (pc2 := 14) rfl (fun _ _ => rfl) ?_
          exact g1 H dd _ hlen (gs_o rfl l0 rfl) (gs_o rfl l1 rfl) (gs_o rfl l2 rfl) gs_n
        · refine Or.inr ⟨k3, tk3, td3, T, M, o3, lm, y1, y2, y3, y4, li3, c3, fun H dd L hlen l0 l1 l2 l3 => ?_, fun H dd L hlen l0 => RQ_tr (hq H dd L hlen l0) (g2 H dd L hlen l0)⟩
          refine rt_ild rfl l3 ?_
          refine rt_bip rfl k8_40 ?_
          refine biF_gt rfl (n_nlt (by omega) (by omega)) ?_
          refine rt_ald rfl l1 ?_
          refine ow_gf rfl rfl rfl hlen rfl ?_
          refine rt_ico rfl ki_4 ?_
          refine biF_ne rfl (n_ne c4 (by omega) (by decide)) ?_
          refine h1 H dd _ _ _ hlen l0 l1 l2 l3 (fun L2 l0 l1 l2 l3 => ?_)
          refine rt_inc rfl l3 (by decide +kernel) ?_
          rw [in_1]
          refine RT_step (pc2 := 14) rfl (fun _ _ => rfl) ?_
          exact g1 H dd _ hlen (gs_o rfl l0 rfl) (gs_o rfl l1 rfl) (gs_o rfl l2 rfl) gs_n
