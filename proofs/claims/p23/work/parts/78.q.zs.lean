theorem k16_132 : (Int16.ofInt 132).toInt32 = Int32.ofNat 132 := by decide +kernel
theorem k16_396 : (Int16.ofInt 396).toInt32 = Int32.ofNat 396 := by decide +kernel
/-! ===== cells opened ===== -/
theorem len_s {α : Type} {fs : List α} {n : Nat} (h : fs.length = n + 1) : ∃ f t, fs = f :: t ∧ t.length = n := by
  cases fs with
  | nil => cases h
  | cons f t => exact ⟨f, t, rfl, Nat.succ.inj h⟩
theorem len_0 {α : Type} {fs : List α} (h : fs.length = 0) : fs = [] := List.length_eq_zero_iff.mp h
theorem i32_nat (z : Int32) : ∃ k : Nat, z = Int32.ofNat k := ⟨z.toBitVec.toNat, by
  apply Int32.toBitVec_inj.mp
  show z.toBitVec = BitVec.ofNat 32 z.toBitVec.toNat
  rw [BitVec.ofNat_toNat, BitVec.setWidth_eq]⟩
theorem i32_nz {z : Int32} (h : 0 ≤ z.toInt) : z = Int32.ofNat z.toInt.toNat := by
  apply Int32.toInt_inj.mp
  have := i32_hi z
  rw [n_int (by omega)]
  omega
def fl (v : Int32) (l : List Int32) : Nat → Nat → List Int32
  | 0, _ => l
  | r + 1, i => fl v (l.set i v) r (i + 1)
theorem fl_len {v : Int32} : ∀ {r i : Nat} {l : List Int32}, (fl v l r i).length = l.length
  | 0, _, _ => rfl
  | r + 1, i, l => by
    show (fl v (l.set i v) r (i + 1)).length = _
    rw [fl_len, List.length_set]
theorem fl_no {v : Int32} : ∀ {r i j : Nat} {l : List Int32}, (j < i ∨ i + r ≤ j) → (fl v l r i)[j]? = l[j]?
  | 0, _, _, _, _ => rfl
  | r + 1, i, j, l, h => by
    show (fl v (l.set i v) r (i + 1))[j]? = _
    rw [fl_no (by omega), List.getElem?_set_ne (by omega)]
def cpl {α : Type} (s l : List α) : Nat → Nat → List α
  | 0, _ => l
  | r + 1, i => cpl s (match s[i]? with
    | some v => l.set i v
    | none => l) r (i + 1)
theorem cpl_s {α : Type} {s l : List α} {r i : Nat} {v : α} (h : s[i]? = some v) : cpl s l (r + 1) i = cpl s (l.set i v) r (i + 1) := by
  show cpl s (match s[i]? with
    | some v => l.set i v
    | none => l) r (i + 1) = _
  rw [h]
theorem cpl_len {α : Type} {s : List α} : ∀ {r i : Nat} {l : List α}, (cpl s l r i).length = l.length
  | 0, _, _ => rfl
  | r + 1, i, l => by
    show (cpl s (match s[i]? with
      | some v => l.set i v
      | none => l) r (i + 1)).length = _
    rw [cpl_len]
    split
    · rw [List.length_set]
    · rfl
theorem cpl_no {α : Type} {s : List α} : ∀ {r i j : Nat} {l : List α}, (j < i ∨ i + r ≤ j) → (cpl s l r i)[j]? = l[j]?
  | 0, _, _, _, _ => rfl
  | r + 1, i, j, l, h => by
    show (cpl s (match s[i]? with
      | some v => l.set i v
      | none => l) r (i + 1))[j]? = _
    rw [cpl_no (by omega)]
    split
    · rw [List.getElem?_set_ne (by omega)]
    · rfl
theorem cpl_at {α : Type} {s : List α} : ∀ {r i j : Nat} {l : List α}, i ≤ j → j < i + r → j < s.length → j < l.length → (cpl s l r i)[j]? = s[j]?
  | 0, i, j, l, h1, h2, _, _ => by omega
  | r + 1, i, j, l, h1, h2, h3, h4 => by
    by_cases c : i = j
    · subst c
      rw [cpl_s (gd_i h3), cpl_no (Or.inl (Nat.lt_succ_self i)), List.getElem?_set_self h4, gd_i h3]
    · rw [cpl_s (gd_i (show i < s.length by omega))]
      exact cpl_at (by omega) (by omega) h3 (by rw [List.length_set]; exact h4)
theorem oc_0 {hp : List AE} (h : hp_ok GG hp) : ∃ (d : Nat) (s : Nat) (se : Nat) (ss : Nat) (lt : Int32) (fb : Int32) (tq : Int32) (gb : Int32), hp[0]? = some (.inr (10, [.ref 1, .ref d, .ref s, .ref 23, .ref 31, .ref 39, .ref 105, .ref se, .ref ss, .ref 120, .ref 125, .ref 129, .ref 131, .int lt, .int fb, .int tq, .int gb])) ∧ (d = 3 ∨ d = 13) ∧ (s = 3 ∨ s = 13) ∧ (se = 110 ∨ se = 115) ∧ (ss = 110 ∨ ss = 115) := by
  obtain ⟨q1, q2⟩ := h.1 0 gc0 rfl
  obtain ⟨fs, e1, e2⟩ := hh_obj q1
  have g : ∀ i v, fs[i]? = some v → ∀ ft, lkp gc0.2.2 i = some ft → ft_ok ft v := fun i v hv ft hf => (q2 i v (by unfold hq; rw [e1]; exact hv)).2 ft hf
  obtain ⟨f0, fs0, rfl, k0⟩ := len_s e2
  obtain ⟨f1, fs1, rfl, k1⟩ := len_s k0
  obtain ⟨f2, fs2, rfl, k2⟩ := len_s k1
  obtain ⟨f3, fs3, rfl, k3⟩ := len_s k2
  obtain ⟨f4, fs4, rfl, k4⟩ := len_s k3
  obtain ⟨f5, fs5, rfl, k5⟩ := len_s k4
  obtain ⟨f6, fs6, rfl, k6⟩ := len_s k5
  obtain ⟨f7, fs7, rfl, k7⟩ := len_s k6
  obtain ⟨f8, fs8, rfl, k8⟩ := len_s k7
  obtain ⟨f9, fs9, rfl, k9⟩ := len_s k8
  obtain ⟨f10, fs10, rfl, k10⟩ := len_s k9
  obtain ⟨f11, fs11, rfl, k11⟩ := len_s k10
  obtain ⟨f12, fs12, rfl, k12⟩ := len_s k11
  obtain ⟨f13, fs13, rfl, k13⟩ := len_s k12
  obtain ⟨f14, fs14, rfl, k14⟩ := len_s k13
  obtain ⟨f15, fs15, rfl, k15⟩ := len_s k14
  obtain ⟨f16, fs16, rfl, k16⟩ := len_s k15
  obtain rfl := len_0 k16
  obtain rfl : f0 = .ref 1 := g 0 f0 rfl _ rfl
  have r1 : f1 = .ref 3 ∨ f1 = .ref 13 := g 1 f1 rfl _ rfl
  have r2 : f2 = .ref 3 ∨ f2 = .ref 13 := g 2 f2 rfl _ rfl
  obtain rfl : f3 = .ref 23 := g 3 f3 rfl _ rfl
  obtain rfl : f4 = .ref 31 := g 4 f4 rfl _ rfl
  obtain rfl : f5 = .ref 39 := g 5 f5 rfl _ rfl
  obtain rfl : f6 = .ref 105 := g 6 f6 rfl _ rfl
  have r7 : f7 = .ref 110 ∨ f7 = .ref 115 := g 7 f7 rfl _ rfl
  have r8 : f8 = .ref 110 ∨ f8 = .ref 115 := g 8 f8 rfl _ rfl
  obtain rfl : f9 = .ref 120 := g 9 f9 rfl _ rfl
  obtain rfl : f10 = .ref 125 := g 10 f10 rfl _ rfl
  obtain rfl : f11 = .ref 129 := g 11 f11 rfl _ rfl
  obtain rfl : f12 = .ref 131 := g 12 f12 rfl _ rfl
  obtain ⟨x13, rfl, b13, d13⟩ := g 13 f13 rfl _ rfl
  obtain ⟨x14, rfl, b14, d14⟩ := g 14 f14 rfl _ rfl
  obtain ⟨x15, rfl, b15, d15⟩ := g 15 f15 rfl _ rfl
  obtain ⟨x16, rfl, b16, d16⟩ := g 16 f16 rfl _ rfl
  rcases r1 with rfl | rfl <;> rcases r2 with rfl | rfl <;> rcases r7 with rfl | rfl <;> rcases r8 with rfl | rfl
  · exact ⟨3, 3, 110, 110, x13, x14, x15, x16, e1, Or.inl rfl, Or.inl rfl, Or.inl rfl, Or.inl rfl⟩
  · exact ⟨3, 3, 110, 115, x13, x14, x15, x16, e1, Or.inl rfl, Or.inl rfl, Or.inl rfl, Or.inr rfl⟩
  · exact ⟨3, 3, 115, 110, x13, x14, x15, x16, e1, Or.inl rfl, Or.inl rfl, Or.inr rfl, Or.inl rfl⟩
  · exact ⟨3, 3, 115, 115, x13, x14, x15, x16, e1, Or.inl rfl, Or.inl rfl, Or.inr rfl, Or.inr rfl⟩
  · exact ⟨3, 13, 110, 110, x13, x14, x15, x16, e1, Or.inl rfl, Or.inr rfl, Or.inl rfl, Or.inl rfl⟩
  · exact ⟨3, 13, 110, 115, x13, x14, x15, x16, e1, Or.inl rfl, Or.inr rfl, Or.inl rfl, Or.inr rfl⟩
  · exact ⟨3, 13, 115, 110, x13, x14, x15, x16, e1, Or.inl rfl, Or.inr rfl, Or.inr rfl, Or.inl rfl⟩
  · exact ⟨3, 13, 115, 115, x13, x14, x15, x16, e1, Or.inl rfl, Or.inr rfl, Or.inr rfl, Or.inr rfl⟩
  · exact ⟨13, 3, 110, 110, x13, x14, x15, x16, e1, Or.inr rfl, Or.inl rfl, Or.inl rfl, Or.inl rfl⟩
  · exact ⟨13, 3, 110, 115, x13, x14, x15, x16, e1, Or.inr rfl, Or.inl rfl, Or.inl rfl, Or.inr rfl⟩
  · exact ⟨13, 3, 115, 110, x13, x14, x15, x16, e1, Or.inr rfl, Or.inl rfl, Or.inr rfl, Or.inl rfl⟩
  · exact ⟨13, 3, 115, 115, x13, x14, x15, x16, e1, Or.inr rfl, Or.inl rfl, Or.inr rfl, Or.inr rfl⟩
  · exact ⟨13, 13, 110, 110, x13, x14, x15, x16, e1, Or.inr rfl, Or.inr rfl, Or.inl rfl, Or.inl rfl⟩
  · exact ⟨13, 13, 110, 115, x13, x14, x15, x16, e1, Or.inr rfl, Or.inr rfl, Or.inl rfl, Or.inr rfl⟩
  · exact ⟨13, 13, 115, 110, x13, x14, x15, x16, e1, Or.inr rfl, Or.inr rfl, Or.inr rfl, Or.inl rfl⟩
  · exact ⟨13, 13, 115, 115, x13, x14, x15, x16, e1, Or.inr rfl, Or.inr rfl, Or.inr rfl, Or.inr rfl⟩
theorem oc_1 {hp : List AE} (h : hp_ok GG hp) : ∃ (n : Nat) (lim : Nat) (a : Nat) (kd : Nat) (pl : Nat) (w : Nat) (le : Int64) (nu : Int32) (tk : Int32) (fa : Int32) (fp : Int32), hp[1]? = some (.inr (9, [.ref 2, .int (Int32.ofNat n), .int (Int32.ofNat lim), .int (Int32.ofNat a), .int (Int32.ofNat kd), .int (Int32.ofNat pl), .retAddr w, .long le, .int nu, .int tk, .int fa, .int fp])) ∧ n ≤ 940 ∧ w < 32 := by
  obtain ⟨q1, q2⟩ := h.1 1 gc1 rfl
  obtain ⟨fs, e1, e2⟩ := hh_obj q1
  have g : ∀ i v, fs[i]? = some v → ∀ ft, lkp gc1.2.2 i = some ft → ft_ok ft v := fun i v hv ft hf => (q2 i v (by unfold hq; rw [e1]; exact hv)).2 ft hf
  obtain ⟨f0, fs0, rfl, k0⟩ := len_s e2
  obtain ⟨f1, fs1, rfl, k1⟩ := len_s k0
  obtain ⟨f2, fs2, rfl, k2⟩ := len_s k1
  obtain ⟨f3, fs3, rfl, k3⟩ := len_s k2
  obtain ⟨f4, fs4, rfl, k4⟩ := len_s k3
  obtain ⟨f5, fs5, rfl, k5⟩ := len_s k4
  obtain ⟨f6, fs6, rfl, k6⟩ := len_s k5
  obtain ⟨f7, fs7, rfl, k7⟩ := len_s k6
  obtain ⟨f8, fs8, rfl, k8⟩ := len_s k7
  obtain ⟨f9, fs9, rfl, k9⟩ := len_s k8
  obtain ⟨f10, fs10, rfl, k10⟩ := len_s k9
  obtain ⟨f11, fs11, rfl, k11⟩ := len_s k10
  obtain rfl := len_0 k11
  obtain rfl : f0 = .ref 2 := g 0 f0 rfl _ rfl
  obtain ⟨x1, rfl, b1, d1⟩ := g 1 f1 rfl _ rfl
  have z1 := i32_nz b1
  obtain ⟨x2, rfl, b2, d2⟩ := g 2 f2 rfl _ rfl
  obtain ⟨lim, rfl⟩ := i32_nat x2
  obtain ⟨x3, rfl, b3, d3⟩ := g 3 f3 rfl _ rfl
  obtain ⟨a, rfl⟩ := i32_nat x3
  obtain ⟨x4, rfl, b4, d4⟩ := g 4 f4 rfl _ rfl
  obtain ⟨kd, rfl⟩ := i32_nat x4
  obtain ⟨x5, rfl, b5, d5⟩ := g 5 f5 rfl _ rfl
  obtain ⟨pl, rfl⟩ := i32_nat x5
  obtain ⟨x6, rfl, d6⟩ := g 6 f6 rfl _ rfl
  obtain ⟨x7, rfl, -, -⟩ := g 7 f7 rfl _ rfl
  obtain ⟨x8, rfl, b8, d8⟩ := g 8 f8 rfl _ rfl
  obtain ⟨x9, rfl, b9, d9⟩ := g 9 f9 rfl _ rfl
  obtain ⟨x10, rfl, b10, d10⟩ := g 10 f10 rfl _ rfl
  obtain ⟨x11, rfl, b11, d11⟩ := g 11 f11 rfl _ rfl
  exact ⟨x1.toInt.toNat, lim, a, kd, pl, x6, x7, x8, x9, x10, x11, by rw [← z1]; exact e1, by omega, d6⟩
theorem oc_23 {hp : List AE} (h : hp_ok GG hp) : ∃ (c0 : Int32) (c1 : Int32) (c2 : Int32) (c3 : Int32) (c4 : Int32), hp[23]? = some (.inr (3, [.int c0, .int c1, .int c2, .int c3, .int c4, .ref 24, .ref 25, .ref 26, .ref 27, .ref 28, .ref 29, .ref 30])) := by
  obtain ⟨q1, q2⟩ := h.1 23 gc23 rfl
  obtain ⟨fs, e1, e2⟩ := hh_obj q1
  have g : ∀ i v, fs[i]? = some v → ∀ ft, lkp gc23.2.2 i = some ft → ft_ok ft v := fun i v hv ft hf => (q2 i v (by unfold hq; rw [e1]; exact hv)).2 ft hf
  obtain ⟨f0, fs0, rfl, k0⟩ := len_s e2
  obtain ⟨f1, fs1, rfl, k1⟩ := len_s k0
  obtain ⟨f2, fs2, rfl, k2⟩ := len_s k1
  obtain ⟨f3, fs3, rfl, k3⟩ := len_s k2
  obtain ⟨f4, fs4, rfl, k4⟩ := len_s k3
  obtain ⟨f5, fs5, rfl, k5⟩ := len_s k4
  obtain ⟨f6, fs6, rfl, k6⟩ := len_s k5
  obtain ⟨f7, fs7, rfl, k7⟩ := len_s k6
  obtain ⟨f8, fs8, rfl, k8⟩ := len_s k7
  obtain ⟨f9, fs9, rfl, k9⟩ := len_s k8
  obtain ⟨f10, fs10, rfl, k10⟩ := len_s k9
  obtain ⟨f11, fs11, rfl, k11⟩ := len_s k10
  obtain rfl := len_0 k11
  obtain ⟨x0, rfl, b0, d0⟩ := g 0 f0 rfl _ rfl
  obtain ⟨x1, rfl, b1, d1⟩ := g 1 f1 rfl _ rfl
  obtain ⟨x2, rfl, b2, d2⟩ := g 2 f2 rfl _ rfl
  obtain ⟨x3, rfl, b3, d3⟩ := g 3 f3 rfl _ rfl
  obtain ⟨x4, rfl, b4, d4⟩ := g 4 f4 rfl _ rfl
  obtain rfl : f5 = .ref 24 := g 5 f5 rfl _ rfl
  obtain rfl : f6 = .ref 25 := g 6 f6 rfl _ rfl
  obtain rfl : f7 = .ref 26 := g 7 f7 rfl _ rfl
  obtain rfl : f8 = .ref 27 := g 8 f8 rfl _ rfl
  obtain rfl : f9 = .ref 28 := g 9 f9 rfl _ rfl
  obtain rfl : f10 = .ref 29 := g 10 f10 rfl _ rfl
  obtain rfl : f11 = .ref 30 := g 11 f11 rfl _ rfl
  exact ⟨x0, x1, x2, x3, x4, e1⟩
theorem oc_39 {hp : List AE} (h : hp_ok GG hp) : ∃ (c1 : Int32) (c2 : Int32), hp[39]? = some (.inr (6, [.ref 40, .int c1, .int c2])) := by
  obtain ⟨q1, q2⟩ := h.1 39 gc39 rfl
  obtain ⟨fs, e1, e2⟩ := hh_obj q1
  have g : ∀ i v, fs[i]? = some v → ∀ ft, lkp gc39.2.2 i = some ft → ft_ok ft v := fun i v hv ft hf => (q2 i v (by unfold hq; rw [e1]; exact hv)).2 ft hf
  obtain ⟨f0, fs0, rfl, k0⟩ := len_s e2
  obtain ⟨f1, fs1, rfl, k1⟩ := len_s k0
  obtain ⟨f2, fs2, rfl, k2⟩ := len_s k1
  obtain rfl := len_0 k2
  obtain rfl : f0 = .ref 40 := g 0 f0 rfl _ rfl
  obtain ⟨x1, rfl, b1, d1⟩ := g 1 f1 rfl _ rfl
  obtain ⟨x2, rfl, b2, d2⟩ := g 2 f2 rfl _ rfl
  exact ⟨x1, x2, e1⟩
theorem oc_110 {hp : List AE} (h : hp_ok GG hp) : ∃ (c0 : Int32) (c1 : Int32), hp[110]? = some (.inr (7, [.int c0, .int c1, .ref 111, .ref 112, .ref 113, .ref 114])) := by
  obtain ⟨q1, q2⟩ := h.1 110 gc110 rfl
  obtain ⟨fs, e1, e2⟩ := hh_obj q1
  have g : ∀ i v, fs[i]? = some v → ∀ ft, lkp gc110.2.2 i = some ft → ft_ok ft v := fun i v hv ft hf => (q2 i v (by unfold hq; rw [e1]; exact hv)).2 ft hf
  obtain ⟨f0, fs0, rfl, k0⟩ := len_s e2
  obtain ⟨f1, fs1, rfl, k1⟩ := len_s k0
  obtain ⟨f2, fs2, rfl, k2⟩ := len_s k1
  obtain ⟨f3, fs3, rfl, k3⟩ := len_s k2
  obtain ⟨f4, fs4, rfl, k4⟩ := len_s k3
  obtain ⟨f5, fs5, rfl, k5⟩ := len_s k4
  obtain rfl := len_0 k5
  obtain ⟨x0, rfl, b0, d0⟩ := g 0 f0 rfl _ rfl
  obtain ⟨x1, rfl, b1, d1⟩ := g 1 f1 rfl _ rfl
  obtain rfl : f2 = .ref 111 := g 2 f2 rfl _ rfl
  obtain rfl : f3 = .ref 112 := g 3 f3 rfl _ rfl
  obtain rfl : f4 = .ref 113 := g 4 f4 rfl _ rfl
  obtain rfl : f5 = .ref 114 := g 5 f5 rfl _ rfl
  exact ⟨x0, x1, e1⟩
theorem oc_115 {hp : List AE} (h : hp_ok GG hp) : ∃ (c0 : Int32) (c1 : Int32), hp[115]? = some (.inr (7, [.int c0, .int c1, .ref 116, .ref 117, .ref 118, .ref 119])) := by
  obtain ⟨q1, q2⟩ := h.1 115 gc115 rfl
  obtain ⟨fs, e1, e2⟩ := hh_obj q1
  have g : ∀ i v, fs[i]? = some v → ∀ ft, lkp gc115.2.2 i = some ft → ft_ok ft v := fun i v hv ft hf => (q2 i v (by unfold hq; rw [e1]; exact hv)).2 ft hf
  obtain ⟨f0, fs0, rfl, k0⟩ := len_s e2
  obtain ⟨f1, fs1, rfl, k1⟩ := len_s k0
  obtain ⟨f2, fs2, rfl, k2⟩ := len_s k1
  obtain ⟨f3, fs3, rfl, k3⟩ := len_s k2
  obtain ⟨f4, fs4, rfl, k4⟩ := len_s k3
  obtain ⟨f5, fs5, rfl, k5⟩ := len_s k4
  obtain rfl := len_0 k5
  obtain ⟨x0, rfl, b0, d0⟩ := g 0 f0 rfl _ rfl
  obtain ⟨x1, rfl, b1, d1⟩ := g 1 f1 rfl _ rfl
  obtain rfl : f2 = .ref 116 := g 2 f2 rfl _ rfl
  obtain rfl : f3 = .ref 117 := g 3 f3 rfl _ rfl
  obtain rfl : f4 = .ref 118 := g 4 f4 rfl _ rfl
  obtain rfl : f5 = .ref 119 := g 5 f5 rfl _ rfl
  exact ⟨x0, x1, e1⟩
theorem oc_3 {hp : List AE} (h : hp_ok GG hp) : ∃ (P : Nat) (Dn : Nat) (lw : Int32) (cl : Int32) (id : Int32) (gl : Nat) (bo : Nat), hp[3]? = some (.inr (1, [.int (Int32.ofNat P), .int (Int32.ofNat Dn), .int lw, .int cl, .int id, .int (Int32.ofNat gl), .int (Int32.ofNat bo), .ref 4, .ref 5, .ref 6, .ref 9, .ref 10, .ref 11, .ref 12, .ref 7, .ref 8])) ∧ P ≤ 7 ∧ Dn ≤ 8 := by
  obtain ⟨q1, q2⟩ := h.1 3 gc3 rfl
  obtain ⟨fs, e1, e2⟩ := hh_obj q1
  have g : ∀ i v, fs[i]? = some v → ∀ ft, lkp gc3.2.2 i = some ft → ft_ok ft v := fun i v hv ft hf => (q2 i v (by unfold hq; rw [e1]; exact hv)).2 ft hf
  obtain ⟨f0, fs0, rfl, k0⟩ := len_s e2
  obtain ⟨f1, fs1, rfl, k1⟩ := len_s k0
  obtain ⟨f2, fs2, rfl, k2⟩ := len_s k1
  obtain ⟨f3, fs3, rfl, k3⟩ := len_s k2
  obtain ⟨f4, fs4, rfl, k4⟩ := len_s k3
  obtain ⟨f5, fs5, rfl, k5⟩ := len_s k4
  obtain ⟨f6, fs6, rfl, k6⟩ := len_s k5
  obtain ⟨f7, fs7, rfl, k7⟩ := len_s k6
  obtain ⟨f8, fs8, rfl, k8⟩ := len_s k7
  obtain ⟨f9, fs9, rfl, k9⟩ := len_s k8
  obtain ⟨f10, fs10, rfl, k10⟩ := len_s k9
  obtain ⟨f11, fs11, rfl, k11⟩ := len_s k10
  obtain ⟨f12, fs12, rfl, k12⟩ := len_s k11
  obtain ⟨f13, fs13, rfl, k13⟩ := len_s k12
  obtain ⟨f14, fs14, rfl, k14⟩ := len_s k13
  obtain ⟨f15, fs15, rfl, k15⟩ := len_s k14
  obtain rfl := len_0 k15
  obtain ⟨x0, rfl, b0, d0⟩ := g 0 f0 rfl _ rfl
  have z0 := i32_nz b0
  obtain ⟨x1, rfl, b1, d1⟩ := g 1 f1 rfl _ rfl
  have z1 := i32_nz b1
  obtain ⟨x2, rfl, b2, d2⟩ := g 2 f2 rfl _ rfl
  obtain ⟨x3, rfl, b3, d3⟩ := g 3 f3 rfl _ rfl
  obtain ⟨x4, rfl, b4, d4⟩ := g 4 f4 rfl _ rfl
  obtain ⟨x5, rfl, b5, d5⟩ := g 5 f5 rfl _ rfl
  obtain ⟨gl, rfl⟩ := i32_nat x5
  obtain ⟨x6, rfl, b6, d6⟩ := g 6 f6 rfl _ rfl
  obtain ⟨bo, rfl⟩ := i32_nat x6
  obtain rfl : f7 = .ref 4 := g 7 f7 rfl _ rfl
  obtain rfl : f8 = .ref 5 := g 8 f8 rfl _ rfl
  obtain rfl : f9 = .ref 6 := g 9 f9 rfl _ rfl
  obtain rfl : f10 = .ref 9 := g 10 f10 rfl _ rfl
  obtain rfl : f11 = .ref 10 := g 11 f11 rfl _ rfl
  obtain rfl : f12 = .ref 11 := g 12 f12 rfl _ rfl
  obtain rfl : f13 = .ref 12 := g 13 f13 rfl _ rfl
  obtain rfl : f14 = .ref 7 := g 14 f14 rfl _ rfl
  obtain rfl : f15 = .ref 8 := g 15 f15 rfl _ rfl
  exact ⟨x0.toInt.toNat, x1.toInt.toNat, x2, x3, x4, gl, bo, by rw [← z0, ← z1]; exact e1, by omega, by omega⟩
theorem oc_13 {hp : List AE} (h : hp_ok GG hp) : ∃ (P : Nat) (Dn : Nat) (lw : Int32) (cl : Int32) (id : Int32) (gl : Nat) (bo : Nat), hp[13]? = some (.inr (1, [.int (Int32.ofNat P), .int (Int32.ofNat Dn), .int lw, .int cl, .int id, .int (Int32.ofNat gl), .int (Int32.ofNat bo), .ref 14, .ref 15, .ref 16, .ref 19, .ref 20, .ref 21, .ref 22, .ref 17, .ref 18])) ∧ P ≤ 7 ∧ Dn ≤ 8 := by
  obtain ⟨q1, q2⟩ := h.1 13 gc13 rfl
  obtain ⟨fs, e1, e2⟩ := hh_obj q1
  have g : ∀ i v, fs[i]? = some v → ∀ ft, lkp gc13.2.2 i = some ft → ft_ok ft v := fun i v hv ft hf => (q2 i v (by unfold hq; rw [e1]; exact hv)).2 ft hf
  obtain ⟨f0, fs0, rfl, k0⟩ := len_s e2
  obtain ⟨f1, fs1, rfl, k1⟩ := len_s k0
  obtain ⟨f2, fs2, rfl, k2⟩ := len_s k1
  obtain ⟨f3, fs3, rfl, k3⟩ := len_s k2
  obtain ⟨f4, fs4, rfl, k4⟩ := len_s k3
  obtain ⟨f5, fs5, rfl, k5⟩ := len_s k4
  obtain ⟨f6, fs6, rfl, k6⟩ := len_s k5
  obtain ⟨f7, fs7, rfl, k7⟩ := len_s k6
  obtain ⟨f8, fs8, rfl, k8⟩ := len_s k7
  obtain ⟨f9, fs9, rfl, k9⟩ := len_s k8
  obtain ⟨f10, fs10, rfl, k10⟩ := len_s k9
  obtain ⟨f11, fs11, rfl, k11⟩ := len_s k10
  obtain ⟨f12, fs12, rfl, k12⟩ := len_s k11
  obtain ⟨f13, fs13, rfl, k13⟩ := len_s k12
  obtain ⟨f14, fs14, rfl, k14⟩ := len_s k13
  obtain ⟨f15, fs15, rfl, k15⟩ := len_s k14
  obtain rfl := len_0 k15
  obtain ⟨x0, rfl, b0, d0⟩ := g 0 f0 rfl _ rfl
  have z0 := i32_nz b0
  obtain ⟨x1, rfl, b1, d1⟩ := g 1 f1 rfl _ rfl
  have z1 := i32_nz b1
  obtain ⟨x2, rfl, b2, d2⟩ := g 2 f2 rfl _ rfl
  obtain ⟨x3, rfl, b3, d3⟩ := g 3 f3 rfl _ rfl
  obtain ⟨x4, rfl, b4, d4⟩ := g 4 f4 rfl _ rfl
  obtain ⟨x5, rfl, b5, d5⟩ := g 5 f5 rfl _ rfl
  obtain ⟨gl, rfl⟩ := i32_nat x5
  obtain ⟨x6, rfl, b6, d6⟩ := g 6 f6 rfl _ rfl
  obtain ⟨bo, rfl⟩ := i32_nat x6
  obtain rfl : f7 = .ref 14 := g 7 f7 rfl _ rfl
  obtain rfl : f8 = .ref 15 := g 8 f8 rfl _ rfl
  obtain rfl : f9 = .ref 16 := g 9 f9 rfl _ rfl
  obtain rfl : f10 = .ref 19 := g 10 f10 rfl _ rfl
  obtain rfl : f11 = .ref 20 := g 11 f11 rfl _ rfl
  obtain rfl : f12 = .ref 21 := g 12 f12 rfl _ rfl
  obtain rfl : f13 = .ref 22 := g 13 f13 rfl _ rfl
  obtain rfl : f14 = .ref 17 := g 14 f14 rfl _ rfl
  obtain rfl : f15 = .ref 18 := g 15 f15 rfl _ rfl
  exact ⟨x0.toInt.toNat, x1.toInt.toNat, x2, x3, x4, gl, bo, by rw [← z0, ← z1]; exact e1, by omega, by omega⟩
theorem oc_133 {hp : List AE} (h : hp_ok GG hp) : ∃ (P : Nat) (Dn : Nat) (lw : Int32) (cl : Int32) (id : Int32) (gl : Nat) (bo : Nat), hp[133]? = some (.inr (1, [.int (Int32.ofNat P), .int (Int32.ofNat Dn), .int lw, .int cl, .int id, .int (Int32.ofNat gl), .int (Int32.ofNat bo), .ref 134, .ref 135, .ref 136, .ref 139, .ref 140, .ref 141, .ref 142, .ref 137, .ref 138])) ∧ P ≤ 7 ∧ Dn ≤ 8 := by
  obtain ⟨q1, q2⟩ := h.1 133 gc133 rfl
  obtain ⟨fs, e1, e2⟩ := hh_obj q1
  have g : ∀ i v, fs[i]? = some v → ∀ ft, lkp gc133.2.2 i = some ft → ft_ok ft v := fun i v hv ft hf => (q2 i v (by unfold hq; rw [e1]; exact hv)).2 ft hf
  obtain ⟨f0, fs0, rfl, k0⟩ := len_s e2
  obtain ⟨f1, fs1, rfl, k1⟩ := len_s k0
  obtain ⟨f2, fs2, rfl, k2⟩ := len_s k1
  obtain ⟨f3, fs3, rfl, k3⟩ := len_s k2
  obtain ⟨f4, fs4, rfl, k4⟩ := len_s k3
  obtain ⟨f5, fs5, rfl, k5⟩ := len_s k4
  obtain ⟨f6, fs6, rfl, k6⟩ := len_s k5
  obtain ⟨f7, fs7, rfl, k7⟩ := len_s k6
  obtain ⟨f8, fs8, rfl, k8⟩ := len_s k7
  obtain ⟨f9, fs9, rfl, k9⟩ := len_s k8
  obtain ⟨f10, fs10, rfl, k10⟩ := len_s k9
  obtain ⟨f11, fs11, rfl, k11⟩ := len_s k10
  obtain ⟨f12, fs12, rfl, k12⟩ := len_s k11
  obtain ⟨f13, fs13, rfl, k13⟩ := len_s k12
  obtain ⟨f14, fs14, rfl, k14⟩ := len_s k13
  obtain ⟨f15, fs15, rfl, k15⟩ := len_s k14
  obtain rfl := len_0 k15
  obtain ⟨x0, rfl, b0, d0⟩ := g 0 f0 rfl _ rfl
  have z0 := i32_nz b0
  obtain ⟨x1, rfl, b1, d1⟩ := g 1 f1 rfl _ rfl
  have z1 := i32_nz b1
  obtain ⟨x2, rfl, b2, d2⟩ := g 2 f2 rfl _ rfl
  obtain ⟨x3, rfl, b3, d3⟩ := g 3 f3 rfl _ rfl
  obtain ⟨x4, rfl, b4, d4⟩ := g 4 f4 rfl _ rfl
  obtain ⟨x5, rfl, b5, d5⟩ := g 5 f5 rfl _ rfl
  obtain ⟨gl, rfl⟩ := i32_nat x5
  obtain ⟨x6, rfl, b6, d6⟩ := g 6 f6 rfl _ rfl
  obtain ⟨bo, rfl⟩ := i32_nat x6
  obtain rfl : f7 = .ref 134 := g 7 f7 rfl _ rfl
  obtain rfl : f8 = .ref 135 := g 8 f8 rfl _ rfl
  obtain rfl : f9 = .ref 136 := g 9 f9 rfl _ rfl
  obtain rfl : f10 = .ref 139 := g 10 f10 rfl _ rfl
  obtain rfl : f11 = .ref 140 := g 11 f11 rfl _ rfl
  obtain rfl : f12 = .ref 141 := g 12 f12 rfl _ rfl
  obtain rfl : f13 = .ref 142 := g 13 f13 rfl _ rfl
  obtain rfl : f14 = .ref 137 := g 14 f14 rfl _ rfl
  obtain rfl : f15 = .ref 138 := g 15 f15 rfl _ rfl
  exact ⟨x0.toInt.toNat, x1.toInt.toNat, x2, x3, x4, gl, bo, by rw [← z0, ← z1]; exact e1, by omega, by omega⟩
theorem oc_157 {hp : List AE} (h : hp_ok GG hp) : ∃ (P : Nat) (Dn : Nat) (lw : Int32) (cl : Int32) (id : Int32) (gl : Nat) (bo : Nat), hp[157]? = some (.inr (1, [.int (Int32.ofNat P), .int (Int32.ofNat Dn), .int lw, .int cl, .int id, .int (Int32.ofNat gl), .int (Int32.ofNat bo), .ref 158, .ref 159, .ref 160, .ref 163, .ref 164, .ref 165, .ref 166, .ref 161, .ref 162])) ∧ P ≤ 7 ∧ Dn ≤ 8 := by
  obtain ⟨q1, q2⟩ := h.1 157 gc157 rfl
  obtain ⟨fs, e1, e2⟩ := hh_obj q1
  have g : ∀ i v, fs[i]? = some v → ∀ ft, lkp gc157.2.2 i = some ft → ft_ok ft v := fun i v hv ft hf => (q2 i v (by unfold hq; rw [e1]; exact hv)).2 ft hf
  obtain ⟨f0, fs0, rfl, k0⟩ := len_s e2
  obtain ⟨f1, fs1, rfl, k1⟩ := len_s k0
  obtain ⟨f2, fs2, rfl, k2⟩ := len_s k1
  obtain ⟨f3, fs3, rfl, k3⟩ := len_s k2
  obtain ⟨f4, fs4, rfl, k4⟩ := len_s k3
  obtain ⟨f5, fs5, rfl, k5⟩ := len_s k4
  obtain ⟨f6, fs6, rfl, k6⟩ := len_s k5
  obtain ⟨f7, fs7, rfl, k7⟩ := len_s k6
  obtain ⟨f8, fs8, rfl, k8⟩ := len_s k7
  obtain ⟨f9, fs9, rfl, k9⟩ := len_s k8
  obtain ⟨f10, fs10, rfl, k10⟩ := len_s k9
  obtain ⟨f11, fs11, rfl, k11⟩ := len_s k10
  obtain ⟨f12, fs12, rfl, k12⟩ := len_s k11
  obtain ⟨f13, fs13, rfl, k13⟩ := len_s k12
  obtain ⟨f14, fs14, rfl, k14⟩ := len_s k13
  obtain ⟨f15, fs15, rfl, k15⟩ := len_s k14
  obtain rfl := len_0 k15
  obtain ⟨x0, rfl, b0, d0⟩ := g 0 f0 rfl _ rfl
  have z0 := i32_nz b0
  obtain ⟨x1, rfl, b1, d1⟩ := g 1 f1 rfl _ rfl
  have z1 := i32_nz b1
  obtain ⟨x2, rfl, b2, d2⟩ := g 2 f2 rfl _ rfl
  obtain ⟨x3, rfl, b3, d3⟩ := g 3 f3 rfl _ rfl
  obtain ⟨x4, rfl, b4, d4⟩ := g 4 f4 rfl _ rfl
  obtain ⟨x5, rfl, b5, d5⟩ := g 5 f5 rfl _ rfl
  obtain ⟨gl, rfl⟩ := i32_nat x5
  obtain ⟨x6, rfl, b6, d6⟩ := g 6 f6 rfl _ rfl
  obtain ⟨bo, rfl⟩ := i32_nat x6
  obtain rfl : f7 = .ref 158 := g 7 f7 rfl _ rfl
  obtain rfl : f8 = .ref 159 := g 8 f8 rfl _ rfl
  obtain rfl : f9 = .ref 160 := g 9 f9 rfl _ rfl
  obtain rfl : f10 = .ref 163 := g 10 f10 rfl _ rfl
  obtain rfl : f11 = .ref 164 := g 11 f11 rfl _ rfl
  obtain rfl : f12 = .ref 165 := g 12 f12 rfl _ rfl
  obtain rfl : f13 = .ref 166 := g 13 f13 rfl _ rfl
  obtain rfl : f14 = .ref 161 := g 14 f14 rfl _ rfl
  obtain rfl : f15 = .ref 162 := g 15 f15 rfl _ rfl
  exact ⟨x0.toInt.toNat, x1.toInt.toNat, x2, x3, x4, gl, bo, by rw [← z0, ← z1]; exact e1, by omega, by omega⟩
theorem oc_180 {hp : List AE} (h : hp_ok GG hp) : ∃ (p0 : Int32) (n : Nat) (sz : Nat) (lim : Nat) (a : Nat) (fr : Nat) (kd : Nat) (nu : Int32) (sg : Int32) (fa : Int32) (pl : Int32) (wd : Int64) (td : Int32) (sm : Int32) (pr : List Value), hp[180]? = some (.inr (11, .int p0 :: .ref 181 :: .int (Int32.ofNat n) :: .int (Int32.ofNat sz) :: .int (Int32.ofNat lim) :: .int (Int32.ofNat a) :: .int (Int32.ofNat fr) :: .int (Int32.ofNat kd) :: .int nu :: .int sg :: .int fa :: .int pl :: .long wd :: .int td :: .ref 182 :: .ref 183 :: .ref 184 :: .ref 185 :: .ref 186 :: .ref 187 :: .ref 188 :: .ref 189 :: .ref 190 :: .ref 191 :: .int sm :: pr)) ∧ n ≤ 940 := by
  obtain ⟨q1, q2⟩ := h.1 180 gc180 rfl
  obtain ⟨fs, e1, e2⟩ := hh_obj q1
  have g : ∀ i v, fs[i]? = some v → ∀ ft, lkp gc180.2.2 i = some ft → ft_ok ft v := fun i v hv ft hf => (q2 i v (by unfold hq; rw [e1]; exact hv)).2 ft hf
  obtain ⟨f0, fs0, rfl, k0⟩ := len_s e2
  obtain ⟨f1, fs1, rfl, k1⟩ := len_s k0
  obtain ⟨f2, fs2, rfl, k2⟩ := len_s k1
  obtain ⟨f3, fs3, rfl, k3⟩ := len_s k2
  obtain ⟨f4, fs4, rfl, k4⟩ := len_s k3
  obtain ⟨f5, fs5, rfl, k5⟩ := len_s k4
  obtain ⟨f6, fs6, rfl, k6⟩ := len_s k5
  obtain ⟨f7, fs7, rfl, k7⟩ := len_s k6
  obtain ⟨f8, fs8, rfl, k8⟩ := len_s k7
  obtain ⟨f9, fs9, rfl, k9⟩ := len_s k8
  obtain ⟨f10, fs10, rfl, k10⟩ := len_s k9
  obtain ⟨f11, fs11, rfl, k11⟩ := len_s k10
  obtain ⟨f12, fs12, rfl, k12⟩ := len_s k11
  obtain ⟨f13, fs13, rfl, k13⟩ := len_s k12
  obtain ⟨f14, fs14, rfl, k14⟩ := len_s k13
  obtain ⟨f15, fs15, rfl, k15⟩ := len_s k14
  obtain ⟨f16, fs16, rfl, k16⟩ := len_s k15
  obtain ⟨f17, fs17, rfl, k17⟩ := len_s k16
  obtain ⟨f18, fs18, rfl, k18⟩ := len_s k17
  obtain ⟨f19, fs19, rfl, k19⟩ := len_s k18
  obtain ⟨f20, fs20, rfl, k20⟩ := len_s k19
  obtain ⟨f21, fs21, rfl, k21⟩ := len_s k20
  obtain ⟨f22, fs22, rfl, k22⟩ := len_s k21
  obtain ⟨f23, fs23, rfl, k23⟩ := len_s k22
  obtain ⟨f24, fs24, rfl, k24⟩ := len_s k23
  obtain ⟨x0, rfl, b0, d0⟩ := g 0 f0 rfl _ rfl
  obtain rfl : f1 = .ref 181 := g 1 f1 rfl _ rfl
  obtain ⟨x2, rfl, b2, d2⟩ := g 2 f2 rfl _ rfl
  have z2 := i32_nz b2
  obtain ⟨x3, rfl, b3, d3⟩ := g 3 f3 rfl _ rfl
  obtain ⟨sz, rfl⟩ := i32_nat x3
  obtain ⟨x4, rfl, b4, d4⟩ := g 4 f4 rfl _ rfl
  obtain ⟨lim, rfl⟩ := i32_nat x4
  obtain ⟨x5, rfl, b5, d5⟩ := g 5 f5 rfl _ rfl
  obtain ⟨a, rfl⟩ := i32_nat x5
  obtain ⟨x6, rfl, b6, d6⟩ := g 6 f6 rfl _ rfl
  obtain ⟨fr, rfl⟩ := i32_nat x6
  obtain ⟨x7, rfl, b7, d7⟩ := g 7 f7 rfl _ rfl
  obtain ⟨kd, rfl⟩ := i32_nat x7
  obtain ⟨x8, rfl, b8, d8⟩ := g 8 f8 rfl _ rfl
  obtain ⟨x9, rfl, b9, d9⟩ := g 9 f9 rfl _ rfl
  obtain ⟨x10, rfl, b10, d10⟩ := g 10 f10 rfl _ rfl
  obtain ⟨x11, rfl, b11, d11⟩ := g 11 f11 rfl _ rfl
  obtain ⟨x12, rfl, -, -⟩ := g 12 f12 rfl _ rfl
  obtain ⟨x13, rfl, b13, d13⟩ := g 13 f13 rfl _ rfl
  obtain rfl : f14 = .ref 182 := g 14 f14 rfl _ rfl
  obtain rfl : f15 = .ref 183 := g 15 f15 rfl _ rfl
  obtain rfl : f16 = .ref 184 := g 16 f16 rfl _ rfl
  obtain rfl : f17 = .ref 185 := g 17 f17 rfl _ rfl
  obtain rfl : f18 = .ref 186 := g 18 f18 rfl _ rfl
  obtain rfl : f19 = .ref 187 := g 19 f19 rfl _ rfl
  obtain rfl : f20 = .ref 188 := g 20 f20 rfl _ rfl
  obtain rfl : f21 = .ref 189 := g 21 f21 rfl _ rfl
  obtain rfl : f22 = .ref 190 := g 22 f22 rfl _ rfl
  obtain rfl : f23 = .ref 191 := g 23 f23 rfl _ rfl
  obtain ⟨x24, rfl, b24, d24⟩ := g 24 f24 rfl _ rfl
  exact ⟨x0, x2.toInt.toNat, sz, lim, a, fr, kd, x8, x9, x10, x11, x12, x13, x24, fs24, by rw [← z2]; exact e1, by omega⟩
theorem lb_1 {H : List AE} (hlen : Nat.ble 204 H.length = true) {g c4 : Int32} {a7 : List Int32} {dd : Nat} {q : ev_R} : ∀ (r i : Nat) (a1 a2 a3 a4 a5 a6 : List Int32) (L : List (Nat × Value)), i + r = 7 → a1.length = 7 → a2.length = 7 → a3.length = 7 → a4.length = 7 → a5.length = 7 → a6.length = 7 → ev_g L 0 = some (.ref 23) → ev_g L 2 = some (.int (Int32.ofNat i)) → (∀ L2, ev_g L2 0 = some (.ref 23) → RT MM dd 91 76 L2 [] (ov H [(23, .inr (3, [.int (Int32.ofNat 0), .int (Int32.ofNat 0), .int (Int32.ofNat 0), .int g, .int c4, .ref 24, .ref 25, .ref 26, .ref 27, .ref 28, .ref 29, .ref 30])), (24, ia (fl (Int32.ofNat 0) a1 r i)), (25, ia (fl (Int32.ofNat 0) a2 r i)), (26, ia (fl (Int32.ofNat 0) a3 r i)), (27, ia (fl (Int32.ofNat 0) a4 r i)), (28, ia (fl (-1 : Int32) a5 r i)), (29, ia (fl (Int32.ofNat 0) a6 r i)), (30, ia a7)]) q) → RT MM dd 91 22 L [] (ov H [(23, .inr (3, [.int (Int32.ofNat 0), .int (Int32.ofNat 0), .int (Int32.ofNat 0), .int g, .int c4, .ref 24, .ref 25, .ref 26, .ref 27, .ref 28, .ref 29, .ref 30])), (24, ia a1), (25, ia a2), (26, ia a3), (27, ia a4), (28, ia a5), (29, ia a6), (30, ia a7)]) q := by
  intro r
  induction r with
  | zero =>
    intro i a1 a2 a3 a4 a5 a6 L hi k1 k2 k3 k4 k5 k6 l0 l2 h
    have hi : i = 7 := by omega
    subst hi
    refine rt_ild rfl l2 ?_
    refine rt_bip rfl k8_7 ?_
    refine biT_ge rfl (n_le (Nat.le_refl _) (by decide)) ?_
    exact h L l0
  | succ r ih =>
    intro i a1 a2 a3 a4 a5 a6 L hi k1 k2 k3 k4 k5 k6 l0 l2 h
    refine rt_ild rfl l2 ?_
    refine rt_bip rfl k8_7 ?_
    refine biF_ge rfl (n_nle (by omega) (by decide)) ?_
    refine rt_ald rfl l0 ?_
    refine ow_gf rfl rfl rfl hlen rfl ?_
    refine rt_ild rfl l2 ?_
    refine rt_ico rfl ki_0 ?_
    refine ow_iasN rfl rfl (by omega) (by omega) hlen rfl rfl ?_
    refine rt_ald rfl l0 ?_
    refine ow_gf rfl rfl rfl hlen rfl ?_
    refine rt_ild rfl l2 ?_
    refine rt_ico rfl ki_0 ?_
    refine ow_iasN rfl rfl (by omega) (by omega) hlen rfl rfl ?_
    refine rt_ald rfl l0 ?_
    refine ow_gf rfl rfl rfl hlen rfl ?_
    refine rt_ild rfl l2 ?_
    refine rt_ico rfl ki_0 ?_
    refine ow_iasN rfl rfl (by omega) (by omega) hlen rfl rfl ?_
    refine rt_ald rfl l0 ?_
    refine ow_gf rfl rfl rfl hlen rfl ?_
    refine rt_ild rfl l2 ?_
    refine rt_ico rfl ki_0 ?_
    refine ow_iasN rfl rfl (by omega) (by omega) hlen rfl rfl ?_
    refine rt_ald rfl l0 ?_
    refine ow_gf rfl rfl rfl hlen rfl ?_
    refine rt_ild rfl l2 ?_
    refine rt_ico rfl ki_m1 ?_
    refine ow_iasN rfl rfl (by omega) (by omega) hlen rfl rfl ?_
    refine rt_ald rfl l0 ?_
    refine ow_gf rfl rfl rfl hlen rfl ?_
    refine rt_ild rfl l2 ?_
    refine rt_ico rfl ki_0 ?_
    refine ow_iasN rfl rfl (by omega) (by omega) hlen rfl rfl ?_
    refine rt_inc rfl l2 (by decide +kernel) ?_
    rw [in_1]
    refine RT_step (pc2 := 22) rfl (fun _ _ => rfl) ?_
    exact ih (i + 1) _ _ _ _ _ _ _ (by omega) (by rw [List.length_set]; assumption) (by rw [List.length_set]; assumption) (by rw [List.length_set]; assumption) (by rw [List.length_set]; assumption) (by rw [List.length_set]; assumption) (by rw [List.length_set]; assumption) (gs_o rfl l0 rfl) gs_n h
theorem lb_2 {H : List AE} (hlen : Nat.ble 204 H.length = true) {g c4 : Int32} {a1 a2 a3 a4 a5 a6 : List Int32} {dd : Nat} {q : ev_R} : ∀ (r i : Nat) (a7 : List Int32) (L : List (Nat × Value)), i + r = 8 → a7.length = 8 → ev_g L 0 = some (.ref 23) → ev_g L 2 = some (.int (Int32.ofNat i)) → (∀ L2, ev_g L2 0 = some (.ref 23) → RT MM dd 91 97 L2 [] (ov H [(23, .inr (3, [.int (Int32.ofNat 0), .int (Int32.ofNat 0), .int (Int32.ofNat 0), .int g, .int c4, .ref 24, .ref 25, .ref 26, .ref 27, .ref 28, .ref 29, .ref 30])), (24, ia a1), (25, ia a2), (26, ia a3), (27, ia a4), (28, ia a5), (29, ia a6), (30, ia (fl (Int32.ofNat 0) a7 r i))]) q) → RT MM dd 91 78 L [] (ov H [(23, .inr (3, [.int (Int32.ofNat 0), .int (Int32.ofNat 0), .int (Int32.ofNat 0), .int g, .int c4, .ref 24, .ref 25, .ref 26, .ref 27, .ref 28, .ref 29, .ref 30])), (24, ia a1), (25, ia a2), (26, ia a3), (27, ia a4), (28, ia a5), (29, ia a6), (30, ia a7)]) q := by
  intro r
  induction r with
  | zero =>
    intro i a7 L hi k7 l0 l2 h
    have hi : i = 8 := by omega
    subst hi
    refine rt_ild rfl l2 ?_
    refine rt_bip rfl k8_8 ?_
    refine biT_ge rfl (n_le (Nat.le_refl _) (by decide)) ?_
    exact h L l0
  | succ r ih =>
    intro i a7 L hi k7 l0 l2 h
    refine rt_ild rfl l2 ?_
    refine rt_bip rfl k8_8 ?_
    refine biF_ge rfl (n_nle (by omega) (by decide)) ?_
    refine rt_ald rfl l0 ?_
    refine ow_gf rfl rfl rfl hlen rfl ?_
    refine rt_ild rfl l2 ?_
    refine rt_ico rfl ki_0 ?_
    refine ow_iasN rfl rfl (by omega) (by omega) hlen rfl rfl ?_
    refine rt_inc rfl l2 (by decide +kernel) ?_
    rw [in_1]
    refine RT_step (pc2 := 78) rfl (fun _ _ => rfl) ?_
    exact ih (i + 1) _ _ (by omega) (by rw [List.length_set]; exact k7) (gs_o rfl l0 rfl) gs_n h
theorem x_begin {H : List AE} (hlen : Nat.ble 204 H.length = true) {c0 c1 c2 c3 c4 g : Int32} {a1 a2 a3 a4 a5 a6 a7 : List Int32} (h0 : H[23]? = some (.inr (3, [.int c0, .int c1, .int c2, .int c3, .int c4, .ref 24, .ref 25, .ref 26, .ref 27, .ref 28, .ref 29, .ref 30]))) (h1 : H[24]? = some (ia a1)) (h2 : H[25]? = some (ia a2)) (h3 : H[26]? = some (ia a3)) (h4 : H[27]? = some (ia a4)) (h5 : H[28]? = some (ia a5)) (h6 : H[29]? = some (ia a6)) (h7 : H[30]? = some (ia a7)) (k1 : a1.length = 7) (k2 : a2.length = 7) (k3 : a3.length = 7) (k4 : a4.length = 7) (k5 : a5.length = 7) (k6 : a6.length = 7) (k7 : a7.length = 8) : FR 1 91 [.ref 23, .int g] H (none, ov H [(23, .inr (3, [.int (Int32.ofNat 0), .int (Int32.ofNat 0), .int (Int32.ofNat 0), .int g, .int c4, .ref 24, .ref 25, .ref 26, .ref 27, .ref 28, .ref 29, .ref 30])), (24, ia (fl (Int32.ofNat 0) a1 7 0)), (25, ia (fl (Int32.ofNat 0) a2 7 0)), (26, ia (fl (Int32.ofNat 0) a3 7 0)), (27, ia (fl (Int32.ofNat 0) a4 7 0)), (28, ia (fl (-1 : Int32) a5 7 0)), (29, ia (fl (Int32.ofNat 0) a6 7 0)), (30, ia (fl (Int32.ofNat 0) a7 8 0))]) := by
  refine FR_ov (l := [(23, .inr (3, [.int c0, .int c1, .int c2, .int c3, .int c4, .ref 24, .ref 25, .ref 26, .ref 27, .ref 28, .ref 29, .ref 30])), (24, ia a1), (25, ia a2), (26, ia a3), (27, ia a4), (28, ia a5), (29, ia a6), (30, ia a7)]) (l2 := [(23, .inr (3, [.int (Int32.ofNat 0), .int (Int32.ofNat 0), .int (Int32.ofNat 0), .int g, .int c4, .ref 24, .ref 25, .ref 26, .ref 27, .ref 28, .ref 29, .ref 30])), (24, ia (fl (Int32.ofNat 0) a1 7 0)), (25, ia (fl (Int32.ofNat 0) a2 7 0)), (26, ia (fl (Int32.ofNat 0) a3 7 0)), (27, ia (fl (Int32.ofNat 0) a4 7 0)), (28, ia (fl (-1 : Int32) a5 7 0)), (29, ia (fl (Int32.ofNat 0) a6 7 0)), (30, ia (fl (Int32.ofNat 0) a7 8 0))]) (ov_id h0 (ov_id h1 (ov_id h2 (ov_id h3 (ov_id h4 (ov_id h5 (ov_id h6 (ov_c1 h7)))))))) rfl rfl ?_
  refine RT_step (pc2 := 1) rfl (fun _ _ => rfl) ?_
  refine rt_ico rfl ki_0 ?_
  refine ow_pf rfl rfl rfl rfl rfl hlen rfl rfl ?_
  refine RT_step (pc2 := 6) rfl (fun _ _ => rfl) ?_
  refine rt_ico rfl ki_0 ?_
  refine ow_pf rfl rfl rfl rfl rfl hlen rfl rfl ?_
  refine RT_step (pc2 := 11) rfl (fun _ _ => rfl) ?_
  refine rt_ico rfl ki_0 ?_
  refine ow_pf rfl rfl rfl rfl rfl hlen rfl rfl ?_
  refine RT_step (pc2 := 16) rfl (fun _ _ => rfl) ?_
  refine RT_step (pc2 := 17) rfl (fun _ _ => rfl) ?_
  refine ow_pf rfl rfl rfl rfl rfl hlen rfl rfl ?_
  refine rt_ico rfl ki_0 ?_
  refine RT_step (pc2 := 22) rfl (fun _ _ => rfl) ?_
  refine lb_1 hlen 7 0 a1 a2 a3 a4 a5 a6 _ rfl k1 k2 k3 k4 k5 k6 rfl rfl (fun L2 l0 => ?_)
  refine rt_ico rfl ki_0 ?_
  refine rt_ist rfl (by decide +kernel) ?_
  refine lb_2 hlen 8 0 a7 _ rfl k7 (gs_o rfl l0 rfl) gs_n (fun L3 l3 => ?_)
  exact ow_ret rfl rfl rfl
theorem ss_a {H : List AE} (hlen : Nat.ble 204 H.length = true) {p0 p2 nu sg fa pl td : Int32} {sz lim a fr kd : Nat} {wd : Int64} {pr : List Value} {dd : Nat} {q : ev_R} : ∀ (r i : Nat) (nw : List Int32) (L : List (Nat × Value)), i + r = 396 → nw.length = 396 → ev_g L 0 = some (.ref 180) → ev_g L 1 = some (.int (Int32.ofNat i)) → (∀ L2, ev_g L2 0 = some (.ref 180) → RT MM dd 280 23 L2 [] (ov H [(180, mcl p0 p2 sz lim a fr kd nu sg fa pl wd td (pof pr)), (182, ia (fl (Int32.ofNat 0) nw r i))]) q) → RT MM dd 280 3 L [] (ov H [(180, mcl p0 p2 sz lim a fr kd nu sg fa pl wd td (pof pr)), (182, ia nw)]) q := by
  intro r
  induction r with
  | zero =>
    intro i nw L hi k l0 l1 h
    have hi : i = 396 := by omega
    subst hi
    refine rt_ild rfl l1 ?_
    refine rt_sip rfl k16_396 ?_
    refine biT_ge rfl (n_le (Nat.le_refl _) (by decide)) ?_
    exact h L l0
  | succ r ih =>
    intro i nw L hi k l0 l1 h
    refine rt_ild rfl l1 ?_
    refine rt_sip rfl k16_396 ?_
    refine biF_ge rfl (n_nle (by omega) (by decide)) ?_
    refine rt_ald rfl l0 ?_
    refine ow_gf rfl rfl rfl hlen rfl ?_
    refine rt_ild rfl l1 ?_
    refine rt_ico rfl ki_0 ?_
    refine ow_iasN rfl rfl (by omega) (by omega) hlen rfl rfl ?_
    refine rt_inc rfl l1 (by decide +kernel) ?_
    rw [in_1]
    refine RT_step (pc2 := 3) rfl (fun _ _ => rfl) ?_
    exact ih (i + 1) _ _ (by omega) (by rw [List.length_set]; exact k) (gs_o rfl l0 rfl) gs_n h
theorem ss_b {H : List AE} (hlen : Nat.ble 204 H.length = true) {p0 p2 nu sg fa pl td : Int32} {sz lim a fr kd : Nat} {wd : Int64} {pr : List Value} {dd : Nat} {q : ev_R} : ∀ (r i : Nat) (nw : List Int32) (L : List (Nat × Value)), i + r = 7 → nw.length = 396 → ev_g L 0 = some (.ref 180) → ev_g L 1 = some (.int (Int32.ofNat i)) → (∀ L2, ev_g L2 0 = some (.ref 180) → RT MM dd 280 62 L2 [] (ov H [(180, mcl p0 p2 sz lim a fr kd nu sg fa pl wd td (pof pr)), (182, ia (fl (-1 : Int32) nw r (132 + i)))]) q) → RT MM dd 280 39 L [] (ov H [(180, mcl p0 p2 sz lim a fr kd nu sg fa pl wd td (pof pr)), (182, ia nw)]) q := by
  intro r
  induction r with
  | zero =>
    intro i nw L hi k l0 l1 h
    have hi : i = 7 := by omega
    subst hi
    refine rt_ild rfl l1 ?_
    refine rt_bip rfl k8_7 ?_
    refine biT_ge rfl (n_le (Nat.le_refl _) (by decide)) ?_
    exact h L l0
  | succ r ih =>
    intro i nw L hi k l0 l1 h
    refine rt_ild rfl l1 ?_
    refine rt_bip rfl k8_7 ?_
    refine biF_ge rfl (n_nle (by omega) (by decide)) ?_
    refine rt_ald rfl l0 ?_
    refine ow_gf rfl rfl rfl hlen rfl ?_
    refine rt_sip rfl k16_132 ?_
    refine rt_ild rfl l1 ?_
    refine ba_iadd rfl ?_
    rw [n_add]
    refine rt_ico rfl ki_m1 ?_
    refine ow_iasN rfl rfl (by omega) (by omega) hlen rfl rfl ?_
    refine rt_inc rfl l1 (by decide +kernel) ?_
    rw [in_1]
    refine RT_step (pc2 := 39) rfl (fun _ _ => rfl) ?_
    exact ih (i + 1) _ _ (by omega) (by rw [List.length_set]; exact k) (gs_o rfl l0 rfl) gs_n h
theorem m_startSo {H : List AE} (hlen : Nat.ble 204 H.length = true) {p0 p2 nu sg fa pl td : Int32} {sz lim a fr kd : Nat} {wd : Int64} {pr : List Value} {nw : List Int32} {v : Int32} (h0 : H[180]? = some (mcl p0 p2 sz lim a fr kd nu sg fa pl wd td (pof pr))) (h1 : H[182]? = some (ia nw)) (k : nw.length = 396) (hv : nw[19]? = some v) : FR 1 280 [.ref 180] H (none, ov H [(180, mcl p0 p2 sz lim a fr kd nu sg fa pl wd td (pof pr)), (182, ia (fl (-1 : Int32) ((fl (Int32.ofNat 0) nw 295 101).set 102 v) 7 (132 + 0)))]) := by
  refine FR_ov (l := [(180, mcl p0 p2 sz lim a fr kd nu sg fa pl wd td (pof pr)), (182, ia nw)]) (l2 := [(180, mcl p0 p2 sz lim a fr kd nu sg fa pl wd td (pof pr)), (182, ia (fl (-1 : Int32) ((fl (Int32.ofNat 0) nw 295 101).set 102 v) 7 (132 + 0)))]) (ov_id h0 (ov_c1 h1)) rfl rfl ?_
  have e1 : (fl (Int32.ofNat 0) nw 295 101)[19]? = some v := by rw [fl_no (Or.inl (by decide))]; exact hv
  have e2 : (fl (Int32.ofNat 0) nw 295 101).length = 396 := by rw [fl_len]; exact k
  refine rt_bip rfl k8_101 ?_
  refine RT_step (pc2 := 3) rfl (fun _ _ => rfl) ?_
  refine ss_a hlen 295 101 nw _ rfl k rfl rfl (fun L2 l0 => ?_)
  refine rt_ald rfl l0 ?_
  refine ow_gf rfl rfl rfl hlen rfl ?_
  refine rt_bip rfl k8_102 ?_
  refine rt_ald rfl l0 ?_
  refine ow_gf rfl rfl rfl hlen rfl ?_
  refine rt_bip rfl k8_19 ?_
  refine ow_ialN rfl rfl e1 (by omega) hlen rfl ?_
  refine ow_iasN rfl rfl (by omega) (by omega) hlen rfl rfl ?_
  refine rt_ico rfl ki_0 ?_
  refine rt_ist rfl (by decide +kernel) ?_
  refine ss_b hlen 7 0 _ _ rfl (by rw [List.length_set]; exact e2) (gs_o rfl l0 rfl) gs_n (fun L3 l3 => ?_)
  exact ow_ret rfl rfl rfl
