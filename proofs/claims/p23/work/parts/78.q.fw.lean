/-! ===== heaps with some cells laid over; runs that say just what comes out ===== -/
def ov (hp : List AE) : List (Nat × AE) → List AE
  | [] => hp
  | q :: l => (ov hp l).set q.1 q.2
def olk : List (Nat × AE) → Nat → Option AE
  | [], _ => none
  | q :: l, a => cond (Nat.beq q.1 a) (some q.2) (olk l a)
def oin : List (Nat × AE) → Nat → AE → List (Nat × AE)
  | [], a, c => [(a, c)]
  | q :: l, a, c => cond (Nat.beq q.1 a) ((a, c) :: l) (q :: oin l a c)
def oil (l : List (Nat × AE)) : List (Nat × AE) → List (Nat × AE)
  | [] => l
  | q :: r => oin (oil l r) q.1 q.2
theorem ov_len {hp : List AE} : ∀ {l : List (Nat × AE)}, (ov hp l).length = hp.length
  | [] => rfl
  | q :: l => by
    show ((ov hp l).set q.1 q.2).length = _
    rw [List.length_set, ov_len]
theorem ov_set {hp : List AE} {a : Nat} {c : AE} : ∀ {l : List (Nat × AE)}, (ov hp l).set a c = ov hp (oin l a c)
  | [] => rfl
  | q :: l => by
    show ((ov hp l).set q.1 q.2).set a c = ov hp (cond (Nat.beq q.1 a) ((a, c) :: l) (q :: oin l a c))
    cases hb : Nat.beq q.1 a with
    | true =>
      rw [Nat.eq_of_beq_eq_true hb, List.set_set]
      rfl
    | false =>
      have hne : q.1 ≠ a := fun e => by rw [e, Nat.beq_refl] at hb; cases hb
      rw [List.set_comm _ _ hne]
      show ((ov hp l).set a c).set q.1 q.2 = (ov hp (oin l a c)).set q.1 q.2
      rw [ov_set]
theorem ov_ov {hp : List AE} {l : List (Nat × AE)} : ∀ {r : List (Nat × AE)}, ov (ov hp l) r = ov hp (oil l r)
  | [] => rfl
  | q :: r => by
    show (ov (ov hp l) r).set q.1 q.2 = ov hp (oin (oil l r) q.1 q.2)
    rw [ov_ov, ov_set]
theorem ov_at {hp : List AE} {a : Nat} {c : AE} : ∀ {l : List (Nat × AE)}, olk l a = some c → a < hp.length → (ov hp l)[a]? = some c
  | [], h, _ => by cases h
  | q :: l, h, hl => by
    have h : cond (Nat.beq q.1 a) (some q.2) (olk l a) = some c := h
    show ((ov hp l).set q.1 q.2)[a]? = some c
    cases hb : Nat.beq q.1 a with
    | true =>
      rw [hb] at h
      cases h
      rw [Nat.eq_of_beq_eq_true hb, List.getElem?_set_self (by rw [ov_len]; exact hl)]
    | false =>
      rw [hb] at h
      have hne : q.1 ≠ a := fun e => by rw [e, Nat.beq_refl] at hb; cases hb
      rw [List.getElem?_set_ne hne]
      exact ov_at h hl
theorem ov_no {hp : List AE} {a : Nat} : ∀ {l : List (Nat × AE)}, olk l a = none → (ov hp l)[a]? = hp[a]?
  | [], _ => rfl
  | q :: l, h => by
    have h : cond (Nat.beq q.1 a) (some q.2) (olk l a) = none := h
    show ((ov hp l).set q.1 q.2)[a]? = _
    cases hb : Nat.beq q.1 a with
    | true => rw [hb] at h; cases h
    | false =>
      rw [hb] at h
      have hne : q.1 ≠ a := fun e => by rw [e, Nat.beq_refl] at hb; cases hb
      rw [List.getElem?_set_ne hne]
      exact ov_no h
theorem set_same {hp : List AE} {a : Nat} {c : AE} (h : hp[a]? = some c) : hp.set a c = hp := by
  apply List.ext_getElem?
  intro i
  by_cases e : a = i
  · subst e
    rw [List.getElem?_set_self (List.getElem?_eq_some_iff.mp h).1, h]
  · rw [List.getElem?_set_ne e]
/-- cells that are as they were -/
theorem ov_c1 {hp : List AE} {a : Nat} {c : AE} (h : hp[a]? = some c) : ov hp [(a, c)] = hp := set_same h
theorem ov_id {hp : List AE} {a : Nat} {c : AE} {l : List (Nat × AE)} (h : hp[a]? = some c) (hl : ov hp l = hp) : ov hp ((a, c) :: l) = hp := by
  show (ov hp l).set a c = hp
  rw [hl, set_same h]
theorem ov_2 {hp : List AE} {a b : Nat} {c d : AE} (h : hp[b]? = some d) : ov hp [(a, c), (b, d)] = ov hp [(a, c)] := congrArg (fun z : List AE => z.set a c) (ov_c1 h)
def FR (k mi : Nat) (As : List Value) (hp : List AE) (r : ev_R) : Prop := ∃ N, ∀ F, N ≤ F → ∀ d, k ≤ d → evF F MM d mi As hp = some r
theorem FR.up {k k2 mi : Nat} {As : List Value} {hp : List AE} {r : ev_R} (h : FR k mi As hp r) (hk : k ≤ k2) : FR k2 mi As hp r := by
  obtain ⟨N, hN⟩ := h
  exact ⟨N, fun F hF d hd => hN F hF d (Nat.le_trans hk hd)⟩
theorem FR.det {k k2 mi : Nat} {As : List Value} {hp : List AE} {r r2 : ev_R} (h : FR k mi As hp r) (h2 : FR k2 mi As hp r2) : r = r2 := by
  obtain ⟨N, hN⟩ := h
  obtain ⟨N2, hN2⟩ := h2
  have e1 := hN (N + N2) (by omega) (k + k2) (by omega)
  have e2 := hN2 (N + N2) (by omega) (k + k2) (by omega)
  rw [e1] at e2
  exact Option.some.inj e2
theorem FR_of {k mi : Nat} {As : List Value} {hp : List AE} {r : ev_R} (hl : (Nat.ble (lg_sl As).length (mL MM mi) && Nat.ble (mL MM mi) 40) = true) (h : RT MM k mi 0 (lv_args 0 As) [] hp r) : FR (k + 1) mi As hp r := by
  obtain ⟨N, hN⟩ := h
  refine ⟨N, fun F hF d hd => ?_⟩
  cases d with
  | zero => omega
  | succ d =>
    show (if (lg_sl As).length ≤ mL MM mi ∧ mL MM mi ≤ 40 then ev_r MM (evF F MM d) mi F 0 (lv_args 0 As) [] hp 0 0 else none) = _
    rw [Bool.and_eq_true] at hl
    rw [if_pos ⟨Nat.le_of_ble_eq_true hl.1, Nat.le_of_ble_eq_true hl.2⟩]
    exact hN F hF F hF d (by omega)
section
variable {dd mi pc x y : Nat} {L : List (Nat × Value)} {st : List Value} {hp : List AE} {l l2 : List (Nat × AE)} {q : ev_R}
theorem RT_if {P : Prop} [Decidable P] {a b : Nat} (hP : P) (h : RT MM dd mi a L st hp q) : RT MM dd mi (if P then a else b) L st hp q := by rw [if_pos hP]; exact h
theorem RT_el {P : Prop} [Decidable P] {a b : Nat} (hP : ¬ P) (h : RT MM dd mi b L st hp q) : RT MM dd mi (if P then a else b) L st hp q := by rw [if_neg hP]; exact h
theorem ow_gf {idx a : Nat} {fs : List Value} {v : Value} (hf : mF MM mi pc = some (.getfield idx, x, y)) (hk : olk l a = some (.inr (x, fs))) (hy : fs[y]? = some v) (ha : Nat.ble 204 hp.length = true) (hb : Nat.blt a 204 = true) (h : RT MM dd mi (pc + 3) L (v :: st) (ov hp l) q) : RT MM dd mi pc L (.ref a :: st) (ov hp l) q := by
  have e := ov_at hk (Nat.lt_of_lt_of_le (Nat.le_of_ble_eq_true hb) (Nat.le_of_ble_eq_true ha))
  refine rt_gf hf ?_ h
  unfold ev_gf
  rw [e]
  show cond (Nat.beq x x) (fs[y]?) none = some v
  rw [Nat.beq_refl]
  exact hy
theorem ow_pf {idx a : Nat} {fs : List Value} {v w : Value} (hf : mF MM mi pc = some (.putfield idx, x, y)) (hk : olk l a = some (.inr (x, fs))) (hy : fs[y]? = some w) (hv : ev_f (TY x y) v = true) (hn : FN x y = false) (ha : Nat.ble 204 hp.length = true) (hb : Nat.blt a 204 = true) (hl : oin l a (.inr (x, fs.set y v)) = l2) (h : RT MM dd mi (pc + 3) L st (ov hp l2) q) : RT MM dd mi pc L (v :: .ref a :: st) (ov hp l) q := by
  have e := ov_at hk (Nat.lt_of_lt_of_le (Nat.le_of_ble_eq_true hb) (Nat.le_of_ble_eq_true ha))
  refine rt_put hf e hv (List.getElem?_eq_some_iff.mp hy).1 hn ?_
  rw [ov_set, hl]
  exact h
theorem ow_ial {a : Nat} {arr : List Int32} {i v : Int32} (hf : mF MM mi pc = some (.iaload, x, y)) (hk : olk l a = some (.inl (1, .inl arr))) (hi : ev_rd arr i = some v) (ha : Nat.ble 204 hp.length = true) (hb : Nat.blt a 204 = true) (h : RT MM dd mi (pc + 1) L (.int v :: st) (ov hp l) q) : RT MM dd mi pc L (.int i :: .ref a :: st) (ov hp l) q := by
  have e := ov_at hk (Nat.lt_of_lt_of_le (Nat.le_of_ble_eq_true hb) (Nat.le_of_ble_eq_true ha))
  have e2 : ev_ai (ov hp l) a = some (1, arr) := by unfold ev_ai; rw [e]
  refine RT_step hf (fun cf K => ?_) h
  show (ev_ai (ov hp l) a).bind _ = _
  rw [e2]
  show (ev_rd arr i).bind _ = _
  rw [hi]
  rfl
theorem ow_bal {a t : Nat} {arr : List Int32} {i v : Int32} (hf : mF MM mi pc = some (.baload, x, y)) (hk : olk l a = some (.inl (t, .inl arr))) (ht : t = 0 ∨ t = 3) (hi : ev_rd arr i = some v) (ha : Nat.ble 204 hp.length = true) (hb : Nat.blt a 204 = true) (h : RT MM dd mi (pc + 1) L (.int v :: st) (ov hp l) q) : RT MM dd mi pc L (.int i :: .ref a :: st) (ov hp l) q := by
  have e := ov_at hk (Nat.lt_of_lt_of_le (Nat.le_of_ble_eq_true hb) (Nat.le_of_ble_eq_true ha))
  have e2 : ev_ai (ov hp l) a = some (t, arr) := by unfold ev_ai; rw [e]
  refine RT_step hf (fun cf K => ?_) h
  show (ev_ai (ov hp l) a).bind _ = _
  rw [e2]
  show (if t = 0 ∨ t = 3 then (ev_rd arr i).bind _ else none) = _
  rw [if_pos ht, hi]
  rfl
theorem ow_lal {a : Nat} {arr : List Int64} {i : Int32} {v : Int64} (hf : mF MM mi pc = some (.laload, x, y)) (hk : olk l a = some (.inl (2, .inr (.inl arr)))) (hi : ev_rd arr i = some v) (ha : Nat.ble 204 hp.length = true) (hb : Nat.blt a 204 = true) (h : RT MM dd mi (pc + 1) L (.long v :: st) (ov hp l) q) : RT MM dd mi pc L (.int i :: .ref a :: st) (ov hp l) q := by
  have e := ov_at hk (Nat.lt_of_lt_of_le (Nat.le_of_ble_eq_true hb) (Nat.le_of_ble_eq_true ha))
  have e2 : ev_al (ov hp l) a = some (2, arr) := by unfold ev_al; rw [e]
  refine RT_step hf (fun cf K => ?_) h
  show (ev_al (ov hp l) a).bind _ = _
  rw [e2]
  show (ev_rd arr i).bind _ = _
  rw [hi]
  rfl
theorem ow_ias {a : Nat} {arr : List Int32} {i v w : Int32} (hf : mF MM mi pc = some (.iastore, x, y)) (hk : olk l a = some (.inl (1, .inl arr))) (hi : ev_rd arr i = some w) (ha : Nat.ble 204 hp.length = true) (hb : Nat.blt a 204 = true) (hl : oin l a (.inl (1, .inl (arr.set i.toNatClampNeg v))) = l2) (h : RT MM dd mi (pc + 1) L st (ov hp l2) q) : RT MM dd mi pc L (.int v :: .int i :: .ref a :: st) (ov hp l) q := by
  have e := ov_at hk (Nat.lt_of_lt_of_le (Nat.le_of_ble_eq_true hb) (Nat.le_of_ble_eq_true ha))
  have e2 : ev_ai (ov hp l) a = some (1, arr) := by unfold ev_ai; rw [e]
  refine RT_step hf (fun cf K => ?_) h
  show (ev_ai (ov hp l) a).bind _ = _
  rw [e2]
  show (ev_rd arr i).bind (fun _ => K (pc + 1) L st ((ov hp l).set a (.inl (1, .inl (arr.set i.toNatClampNeg v)))) 0 0) = _
  rw [hi, ov_set, hl]
  rfl
theorem ow_las {a : Nat} {arr : List Int64} {i : Int32} {v w : Int64} (hf : mF MM mi pc = some (.lastore, x, y)) (hk : olk l a = some (.inl (2, .inr (.inl arr)))) (hi : ev_rd arr i = some w) (ha : Nat.ble 204 hp.length = true) (hb : Nat.blt a 204 = true) (hl : oin l a (.inl (2, .inr (.inl (arr.set i.toNatClampNeg v)))) = l2) (h : RT MM dd mi (pc + 1) L st (ov hp l2) q) : RT MM dd mi pc L (.long v :: .int i :: .ref a :: st) (ov hp l) q := by
  have e := ov_at hk (Nat.lt_of_lt_of_le (Nat.le_of_ble_eq_true hb) (Nat.le_of_ble_eq_true ha))
  have e2 : ev_al (ov hp l) a = some (2, arr) := by unfold ev_al; rw [e]
  refine RT_step hf (fun cf K => ?_) h
  show (ev_al (ov hp l) a).bind _ = _
  rw [e2]
  show (ev_rd arr i).bind (fun _ => K (pc + 1) L st ((ov hp l).set a (.inl (2, .inr (.inl (arr.set i.toNatClampNeg v))))) 0 0) = _
  rw [hi, ov_set, hl]
  rfl
theorem ow_zas {a : Nat} {arr : List Int32} {i v w : Int32} (hf : mF MM mi pc = some (.bastore, x, y)) (hk : olk l a = some (.inl (3, .inl arr))) (hi : ev_rd arr i = some w) (hv : v = 0 ∨ v = 1) (ha : Nat.ble 204 hp.length = true) (hb : Nat.blt a 204 = true) (hl : oin l a (.inl (3, .inl (arr.set i.toNatClampNeg v))) = l2) (h : RT MM dd mi (pc + 1) L st (ov hp l2) q) : RT MM dd mi pc L (.int v :: .int i :: .ref a :: st) (ov hp l) q := by
  have e := ov_at hk (Nat.lt_of_lt_of_le (Nat.le_of_ble_eq_true hb) (Nat.le_of_ble_eq_true ha))
  have e2 : ev_ai (ov hp l) a = some (3, arr) := by unfold ev_ai; rw [e]
  refine RT_step hf (fun cf K => ?_) h
  show (ev_ai (ov hp l) a).bind _ = _
  rw [e2]
  show (ev_rd arr i).bind (fun _ => if (3 : Nat) = 3 ∧ (v = 0 ∨ v = 1) then K (pc + 1) L st ((ov hp l).set a (.inl (3, .inl (arr.set i.toNatClampNeg v)))) 0 0 else none) = _
  rw [hi, ov_set, hl]
  show (if (3 : Nat) = 3 ∧ (v = 0 ∨ v = 1) then _ else none) = _
  rw [if_pos ⟨rfl, hv⟩]
/-- a call of a method that makes nothing -/
theorem ow_iv {idx a : Nat} {fs : List Value} {As rest : List Value} {v : Option Value} {r : List (Nat × AE)} (hf : mF MM mi pc = some (.invokevirtual idx, x, y)) (hx : Nat.blt x 900 = true) (hp0 : ev_pop y st = some (As, .ref a :: rest)) (hk : olk l a = some (.inr (mK MM x, fs))) (ha : Nat.ble 204 hp.length = true) (hb : Nat.blt a 204 = true) (hz : (Nat.beq (mC MM x) 0 && Nat.beq (mS MM x) 0) = true) (hc8 : Nat.ble ((rest.map fun v => v.category).sum) 8 = true) (hc : FR dd x (.ref a :: As) (ov hp l) (v, ov (ov hp l) r)) (hl : oil l r = l2) (h : RT MM dd mi (pc + 3) L (v.toList ++ rest) (ov hp l2) q) : RT MM dd mi pc L st (ov hp l) q := by
  have e := ov_at hk (Nat.lt_of_lt_of_le (Nat.le_of_ble_eq_true hb) (Nat.le_of_ble_eq_true ha))
  rw [Bool.and_eq_true] at hz
  have z1 := Nat.eq_of_beq_eq_true hz.1
  have z2 := Nat.eq_of_beq_eq_true hz.2
  have hx2 : x < 900 := Nat.le_of_ble_eq_true hx
  rw [ov_ov, hl] at hc
  refine RT_call (cx := x) (As := .ref a :: As) (rest := rest) (r := (v, ov hp l2)) hf (fun cf K hcf => ?_) hc h
  show (if x < 900 then ev_iv MM cf mi x y st (ov hp l) 0 0 (K (pc + 3) L) else _) = _
  rw [if_pos hx2]
  unfold ev_iv
  rw [hp0]
  show (ev_ob (ov hp l) a (mK MM x)).bind (fun _ => if x < 900 then ev_cf MM cf mi x (.ref a :: As) rest (ov hp l) 0 0 (K (pc + 3) L) else none) = _
  have e3 : ev_ob (ov hp l) a (mK MM x) = some fs := by
    unfold ev_ob
    rw [e]
    show cond (Nat.beq (mK MM x) (mK MM x)) (some fs) none = some fs
    rw [Nat.beq_refl]
    rfl
  rw [e3]
  show (if x < 900 then ev_cf MM cf mi x (.ref a :: As) rest (ov hp l) 0 0 (K (pc + 3) L) else none) = _
  rw [if_pos hx2]
  unfold ev_cf
  rw [if_pos (Nat.le_of_ble_eq_true hc8), z1, z2, if_pos ⟨Nat.zero_le _, Nat.zero_le _⟩, hcf]
  rfl
theorem ow_is {idx : Nat} {As rest : List Value} {v : Option Value} {r : List (Nat × AE)} (hf : mF MM mi pc = some (.invokestatic idx, x, y)) (hx : Nat.blt x 900 = true) (hp0 : ev_pop y st = some (As, rest)) (hz : (Nat.beq (mC MM x) 0 && Nat.beq (mS MM x) 0) = true) (hc8 : Nat.ble ((rest.map fun v => v.category).sum) 8 = true) (hc : FR dd x As (ov hp l) (v, ov (ov hp l) r)) (hl : oil l r = l2) (h : RT MM dd mi (pc + 3) L (v.toList ++ rest) (ov hp l2) q) : RT MM dd mi pc L st (ov hp l) q := by
  rw [Bool.and_eq_true] at hz
  have z1 := Nat.eq_of_beq_eq_true hz.1
  have z2 := Nat.eq_of_beq_eq_true hz.2
  have hx2 : x < 900 := Nat.le_of_ble_eq_true hx
  rw [ov_ov, hl] at hc
  refine RT_call (cx := x) (As := As) (rest := rest) (r := (v, ov hp l2)) hf (fun cf K hcf => ?_) hc h
  show (if x < 900 then (ev_pop y st).bind (fun q => ev_cf MM cf mi x q.1 q.2 (ov hp l) 0 0 (K (pc + 3) L)) else _) = _
  rw [if_pos hx2, hp0]
  show ev_cf MM cf mi x As rest (ov hp l) 0 0 (K (pc + 3) L) = _
  unfold ev_cf
  rw [if_pos (Nat.le_of_ble_eq_true hc8), z1, z2, if_pos ⟨Nat.zero_le _, Nat.zero_le _⟩, hcf]
  rfl
theorem ow_ret (hf : mF MM mi pc = some (.return_, x, y)) (hr : mR MM mi = none) (hm : (Nat.beq (mC MM mi) 0 && Nat.beq (mS MM mi) 0) = true) : RT MM dd mi pc L [] hp (none, hp) :=
  RT_ret hf (fun cf K => by
    rw [Bool.and_eq_true] at hm
    have z1 := Nat.eq_of_beq_eq_true hm.1
    have z2 := Nat.eq_of_beq_eq_true hm.2
    show (if mR MM mi = none then ev_end MM mi none [] hp 0 0 else none) = _
    rw [if_pos hr]
    unfold ev_end
    rw [z1, z2]
    rfl)
theorem ow_irt {z : Int32} (hf : mF MM mi pc = some (.ireturn, x, y)) (hr : ev_rt (mR MM mi) z = true) (hm : (Nat.beq (mC MM mi) 0 && Nat.beq (mS MM mi) 0) = true) : RT MM dd mi pc L [.int z] hp (some (.int z), hp) := by
  rw [Bool.and_eq_true] at hm
  exact rt_irt hf hr ⟨Nat.eq_of_beq_eq_true hm.1, Nat.eq_of_beq_eq_true hm.2⟩
theorem ow_eq {r r2 : ev_R} (h : RT MM dd mi pc L st hp r) (e : r = r2) : RT MM dd mi pc L st hp r2 := e ▸ h
end
theorem FR_ov {k mi : Nat} {As : List Value} {H : List AE} {v : Option Value} {l l2 r : List (Nat × AE)} (e0 : ov H l = H) (hl : (Nat.ble (lg_sl As).length (mL MM mi) && Nat.ble (mL MM mi) 40) = true) (e2 : ov H l2 = ov H r) (h : RT MM k mi 0 (lv_args 0 As) [] (ov H l) (v, ov H l2)) : FR (k + 1) mi As H (v, ov H r) := by
  rw [e0, e2] at h
  exact FR_of hl h
theorem nbqf {a b : Nat} (h : ¬ a = b) : Nat.beq a b = false := by
  cases e : Nat.beq a b with
  | false => rfl
  | true => exact absurd (Nat.eq_of_beq_eq_true e) h
/-! ===== small numbers ===== -/
theorem n_int {a : Nat} (h : a < 2147483648) : (Int32.ofNat a).toInt = (a : Int) := nI_toInt (n := a) h
theorem n_lt {a b : Nat} (h : a < b) (hb : b < 2147483648) : Int32.ofNat a < Int32.ofNat b := Int32.lt_iff_toInt_lt.mpr (by rw [n_int (by omega), n_int hb]; omega)
theorem n_nlt {a b : Nat} (h : b ≤ a) (ha : a < 2147483648) : ¬ Int32.ofNat a < Int32.ofNat b := fun e => by
  have e := Int32.lt_iff_toInt_lt.mp e
  rw [n_int ha, n_int (by omega)] at e
  omega
theorem n_le {a b : Nat} (h : a ≤ b) (hb : b < 2147483648) : Int32.ofNat a ≤ Int32.ofNat b := Int32.le_iff_toInt_le.mpr (by rw [n_int (by omega), n_int hb]; omega)
theorem n_nle {a b : Nat} (h : b < a) (ha : a < 2147483648) : ¬ Int32.ofNat a ≤ Int32.ofNat b := fun e => by
  have e := Int32.le_iff_toInt_le.mp e
  rw [n_int ha, n_int (by omega)] at e
  omega
theorem n_ne {a b : Nat} (h : a ≠ b) (ha : a < 2147483648) (hb : b < 2147483648) : ¬ Int32.ofNat a = Int32.ofNat b := fun e => by
  have e := congrArg Int32.toInt e
  rw [n_int ha, n_int hb] at e
  omega
theorem n_eq {a b : Nat} (h : a = b) : Int32.ofNat a = Int32.ofNat b := congrArg Int32.ofNat h
theorem n_ps {a : Nat} (ha : a < 2147483648) : ¬ Int32.ofNat a < 0 := n_nlt (b := 0) (Nat.zero_le a) ha
theorem n_add (a b : Nat) : Int32.ofNat a + Int32.ofNat b = Int32.ofNat (a + b) := (Int32.ofNat_add a b).symm
def b01 (b : Bool) : Int32 := cond b (Int32.ofNat 1) (Int32.ofNat 0)
theorem b01_t {b : Bool} (h : b = true) : ¬ b01 b = 0 := by rw [h]; decide
theorem b01_f {b : Bool} (h : b = false) : b01 b = 0 := by rw [h]; rfl
section
variable {dd mi pc x y : Nat} {L : List (Nat × Value)} {st : List Value} {hp : List AE} {q : ev_R}
theorem rt_il2 {n : Nat} {z : Int32} (hf : mF MM mi pc = some (.iload n, x, y)) (hg : ev_g L n = some (.int z)) (h : RT MM dd mi (pc + 2) L (.int z :: st) hp q) : RT MM dd mi pc L st hp q :=
  RT_step hf (fun cf K => by show (ev_g L n).bind _ = _; rw [hg]; rfl) h
theorem rt_lld {n : Fin 4} {z : Int64} (hf : mF MM mi pc = some (.lload_n n, x, y)) (hg : ev_g L n = some (.long z)) (h : RT MM dd mi (pc + 1) L (.long z :: st) hp q) : RT MM dd mi pc L st hp q :=
  RT_step hf (fun cf K => by show (ev_g L n).bind _ = _; rw [hg]; rfl) h
theorem rt_is2 {n : Nat} {z : Int32} (hf : mF MM mi pc = some (.istore n, x, y)) (hn : n < mL MM mi) (h : RT MM dd mi (pc + 2) (ev_s1 L n (.int z)) st hp q) : RT MM dd mi pc L (.int z :: st) hp q :=
  RT_step hf (fun cf K => by show (if n < mL MM mi then _ else none) = _; rw [if_pos hn]) h
theorem ow_lrt {z : Int64} (hf : mF MM mi pc = some (.lreturn, x, y)) (hr : mR MM mi = some .long) (hm : (Nat.beq (mC MM mi) 0 && Nat.beq (mS MM mi) 0) = true) : RT MM dd mi pc L [.long z] hp (some (.long z), hp) :=
  RT_ret hf (fun cf K => by
    rw [Bool.and_eq_true] at hm
    have z1 := Nat.eq_of_beq_eq_true hm.1
    have z2 := Nat.eq_of_beq_eq_true hm.2
    show (if mR MM mi = some .long then ev_end MM mi (some (.long z)) [] hp 0 0 else none) = _
    rw [if_pos hr]
    unfold ev_end
    rw [z1, z2]
    rfl)
theorem ow_art {z : Nat} (hf : mF MM mi pc = some (.areturn, x, y)) (hr : mR MM mi = some (.object "LeftAnswers$Word")) (hm : (Nat.beq (mC MM mi) 0 && Nat.beq (mS MM mi) 0) = true) : RT MM dd mi pc L [.retAddr z] hp (some (.retAddr z), hp) :=
  RT_ret hf (fun cf K => by
    rw [Bool.and_eq_true] at hm
    have z1 := Nat.eq_of_beq_eq_true hm.1
    have z2 := Nat.eq_of_beq_eq_true hm.2
    show (if mR MM mi = some (.object "LeftAnswers$Word") then ev_end MM mi (some (.retAddr z)) [] hp 0 0 else none) = _
    rw [if_pos hr]
    unfold ev_end
    rw [z1, z2]
    rfl)
theorem gs_o2 {L : List (Nat × Value)} {n j : Nat} {v : Value} {w : Int64} (hj : Nat.beq n j = false) (hj2 : Nat.beq n (j + 1) = false) (hw : ev_g L j = some (.long w)) : ev_g (ev_s1 L n v) j = some (.long w) := by
  refine ev_g_tl hj (ev_g_fl hw ?_)
  have hne : j ≠ n := fun e => by rw [e, Nat.beq_refl] at hj; cases hj
  have hne2 : j + 1 ≠ n := fun e => by rw [e, Nat.beq_refl] at hj2; cases hj2
  show (!(j == n) && !(j + 1 == n && (Value.long w).category == 2)) = true
  rw [show (j == n) = false from beq_eq_false_iff_ne.mpr hne, show (j + 1 == n) = false from beq_eq_false_iff_ne.mpr hne2]
  rfl
end
section
variable {dd mi pc x y : Nat} {L : List (Nat × Value)} {st : List Value} {hp : List AE} {q : ev_R}
theorem rt_aal {i : Int32} {n : Nat} (hf : mF MM mi pc = some (.aaload, x, y)) (hi : ev_ix i 32 = some n) (h : RT MM dd mi (pc + 1) L (.retAddr n :: st) hp q) : RT MM dd mi pc L (.int i :: .retAddr 101 :: st) hp q :=
  RT_step hf (fun cf K => by
    show (if (101 : Nat) = 101 then (ev_ix i 32).bind _ else none) = _
    rw [if_pos rfl, hi]
    rfl) h
theorem rt_gwl {idx v : Nat} (hf : mF MM mi pc = some (.getfield idx, 200, y)) (hv : v < 32) (h : RT MM dd mi (pc + 3) L (.long (ev_lt.getD v 0) :: st) hp q) : RT MM dd mi pc L (.retAddr v :: st) hp q :=
  RT_step hf (fun cf K => by
    show (if (200 : Nat) = 200 ∧ v < 32 then _ else none) = _
    rw [if_pos ⟨rfl, hv⟩]) h
theorem rt_acE {off : Int} {v w : Nat} (hf : mF MM mi pc = some (.if_acmp .eq off, x, y)) (hv : v < 32) (hw : w < 32) (h : RT MM dd mi (if w = v then x else pc + 3) L st hp q) : RT MM dd mi pc L (.retAddr v :: .retAddr w :: st) hp q :=
  RT_step hf (fun cf K => by
    show (if v < 32 ∧ w < 32 then K (if w = v then x else pc + 3) L st hp 0 0 else none) = _
    rw [if_pos ⟨hv, hw⟩]) h
theorem rt_acN {off : Int} {v w : Nat} (hf : mF MM mi pc = some (.if_acmp .ne off, x, y)) (hv : v < 32) (hw : w < 32) (h : RT MM dd mi (if w = v then pc + 3 else x) L st hp q) : RT MM dd mi pc L (.retAddr v :: .retAddr w :: st) hp q :=
  RT_step hf (fun cf K => by
    show (if v < 32 ∧ w < 32 then K (if w = v then pc + 3 else x) L st hp 0 0 else none) = _
    rw [if_pos ⟨hv, hw⟩]) h
end
theorem ix_nat {i n : Nat} (hi : i < n) (hn : n < 2147483648) : ev_ix (Int32.ofNat i) n = some i := by
  unfold ev_ix
  have hc : (Int32.ofNat i).toNatClampNeg = i := nI_c (by omega)
  rw [hc, if_neg (fun e => e.elim (n_ps (by omega)) (fun e => by omega))]
theorem lg_0 {x y : Int64} (h : x = y) : lg_cmp x y = 0 := by
  unfold lg_cmp
  rw [if_neg (by rw [h]; exact fun e => Int64.lt_irrefl e), if_pos h]
theorem lg_1 {x y : Int64} (h : ¬ x = y) : ¬ lg_cmp x y = 0 := by
  unfold lg_cmp
  rw [if_neg h]
  split <;> decide
