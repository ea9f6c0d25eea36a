/-! ===== bits counted ===== -/
theorem cnt_t {b i : Nat} (h : b.testBit i = true) : cnt b (i + 1) = cnt b i + 1 := by
  show cnt b i + cond (b.testBit i) 1 0 = _
  rw [h]; rfl
theorem cnt_f {b i : Nat} (h : b.testBit i = false) : cnt b (i + 1) = cnt b i := by
  show cnt b i + cond (b.testBit i) 1 0 = _
  rw [h]; rfl
theorem cnt_le {b : Nat} : ∀ i, cnt b i ≤ i
  | 0 => Nat.le_refl 0
  | i + 1 => by
    have := cnt_le (b := b) i
    cases h : b.testBit i with
    | true => rw [cnt_t h]; omega
    | false => rw [cnt_f h]; omega
theorem cnt_mono {b i : Nat} : ∀ {k}, cnt b i ≤ cnt b (i + k)
  | 0 => Nat.le_refl _
  | k + 1 => by
    have := cnt_mono (b := b) (i := i) (k := k)
    show cnt b i ≤ cnt b (i + k) + cond (b.testBit (i + k)) 1 0
    omega
theorem yk_n {b s : Nat} (hb : b < 2147483648) (hs : s < 32) : yk (Int32.ofNat b) s = Int32.ofNat (b >>> s) := by
  have key : ∀ s, s < 32 → ((Int32.ofNat s).toUInt32 &&& Int32.toUInt32 31).toNat % 32 = s := by decide +kernel
  have h1 := Nat.shiftRight_le b s
  show Int32.ofUInt32 (UInt32.ofNat b >>> ((Int32.ofNat s).toUInt32 &&& Int32.toUInt32 31)) = Int32.ofUInt32 (UInt32.ofNat (b >>> s))
  refine congrArg Int32.ofUInt32 (UInt32.toNat_inj.mp ?_)
  rw [UInt32.toNat_shiftRight, key s hs, UInt32.toNat_ofNat_of_lt' (show b < UInt32.size from Nat.lt_trans hb (by decide)), UInt32.toNat_ofNat_of_lt' (show b >>> s < UInt32.size from Nat.lt_trans (Nat.lt_of_le_of_lt h1 hb) (by decide))]
theorem sp_and {a b m0 m1 s : Nat} (ha : a < 256) (hs : s ≤ 7) (hm : m0 < 2 ^ (8 - s)) : ((256 * b + a) >>> s) &&& (256 * m1 + m0) = 256 * ((b >>> s) &&& m1) + ((a >>> s) &&& m0) := by
  have hm8 : m0 < 2 ^ 8 := Nat.lt_of_lt_of_le hm (Nat.pow_le_pow_right (by decide) (by omega))
  have hr : (a >>> s) &&& m0 < 2 ^ 8 := Nat.and_lt_two_pow _ hm8
  have ha8 : a < 2 ^ 8 := ha
  apply Nat.eq_of_testBit_eq
  intro j
  rw [show (256 : Nat) = 2 ^ 8 from rfl, Nat.testBit_and, Nat.testBit_shiftRight, Nat.testBit_two_pow_mul_add _ ha8, Nat.testBit_two_pow_mul_add _ hm8, Nat.testBit_two_pow_mul_add _ hr]
  by_cases c : j < 8
  · rw [if_pos c, if_pos c, Nat.testBit_and, Nat.testBit_shiftRight]
    by_cases d : s + j < 8
    · rw [if_pos d]
    · have e : m0.testBit j = false := Nat.testBit_lt_two_pow (Nat.lt_of_lt_of_le hm (Nat.pow_le_pow_right (by decide) (by omega)))
      rw [e, Bool.and_false, Bool.and_false]
  · rw [if_neg c, if_neg c, if_neg (by omega), Nat.testBit_and, Nat.testBit_shiftRight, show s + j - 8 = s + (j - 8) by omega]
theorem sp3 {x y z m s : Nat} (hx : x < 256) (hy : y < 256) (hz : z < 256) (hs : s ≤ 7) (hm : m < 2 ^ (8 - s)) : ((256 * (256 * z + y) + x) >>> s) &&& (256 * (256 * (256 * m + m) + m) + m) = 256 * (256 * ((z >>> s) &&& m) + ((y >>> s) &&& m)) + ((x >>> s) &&& m) := by
  have h0 : (z >>> s) &&& (256 * m + m) = (z >>> s) &&& m := by
    have := sp_and (a := z) (b := 0) (m0 := m) (m1 := m) hz hs hm
    rw [Nat.mul_zero, Nat.zero_add, Nat.zero_shiftRight, Nat.zero_and, Nat.mul_zero, Nat.zero_add] at this
    exact this
  rw [sp_and hx hs hm, sp_and hy hs hm, h0]
def w1 (x : Nat) : Nat := x - ((x >>> 1) &&& 85)
def w2 (x : Nat) : Nat := ((x >>> 0) &&& 51) + ((x >>> 2) &&& 51)
def w3 (x : Nat) : Nat := (x + x / 16) % 16
theorem by_1 : ∀ x, x < 256 → ((x >>> 1) &&& 85) ≤ x ∧ w1 x < 256 ∧ w2 (w1 x) ≤ 68 ∧ w2 (w1 x) % 16 ≤ 4 ∧ w3 (w2 (w1 x)) = cnt x 8 ∧ cnt x 8 ≤ 8 := by decide +kernel
theorem by_2 : ∀ z, z < 32 → cnt z 8 = cnt z 5 := by decide +kernel
theorem cnt_lo {a b : Nat} (ha : a < 256) : ∀ i, i ≤ 8 → cnt (256 * b + a) i = cnt a i
  | 0, _ => rfl
  | i + 1, hi => by
    have e : (256 * b + a).testBit i = a.testBit i := by
      rw [show (256 : Nat) = 2 ^ 8 from rfl, Nat.testBit_two_pow_mul_add _ (show a < 2 ^ 8 from ha), if_pos (by omega)]
    show cnt (256 * b + a) i + cond ((256 * b + a).testBit i) 1 0 = cnt a i + cond (a.testBit i) 1 0
    rw [cnt_lo ha i (by omega), e]
theorem cnt_hi {a b : Nat} (ha : a < 256) : ∀ k, cnt (256 * b + a) (8 + k) = cnt a 8 + cnt b k
  | 0 => cnt_lo ha 8 (Nat.le_refl 8)
  | k + 1 => by
    have e : (256 * b + a).testBit (8 + k) = b.testBit k := by
      rw [show (256 : Nat) = 2 ^ 8 from rfl, Nat.testBit_two_pow_mul_add _ (show a < 2 ^ 8 from ha), if_neg (by omega), show 8 + k - 8 = k by omega]
    show cnt (256 * b + a) (8 + k) + cond ((256 * b + a).testBit (8 + k)) 1 0 = cnt a 8 + (cnt b k + cond (b.testBit k) 1 0)
    rw [cnt_hi ha k, e]
    omega
theorem bc_21 {b : Nat} (hb : b < 2097152) : bcE (Int32.ofNat b) = Int32.ofNat (cnt b 21) := by
  obtain ⟨x, y, z, hx, hy, hz, rfl⟩ : ∃ x y z, x < 256 ∧ y < 256 ∧ z < 32 ∧ b = 256 * (256 * z + y) + x := ⟨b % 256, b / 256 % 256, b / 65536, by omega, by omega, by omega, by omega⟩
  obtain ⟨x1, x2, x3, x4, x5, x6⟩ := by_1 x hx
  obtain ⟨y1, y2, y3, y4, y5, y6⟩ := by_1 y hy
  obtain ⟨z1, z2, z3, z4, z5, z6⟩ := by_1 z (by omega)
  have e1 : bc1 (Int32.ofNat (256 * (256 * z + y) + x)) = Int32.ofNat (256 * (256 * w1 z + w1 y) + w1 x) := by
    have h := sp3 (m := 85) (s := 1) hx hy (show z < 256 by omega) (by decide) (by decide)
    unfold bc1
    rw [yk_n (by omega) (by decide), n_and, show (1431655765 : Nat) = 256 * (256 * (256 * 85 + 85) + 85) + 85 from rfl, h, n_sub (by omega)]
    unfold w1
    congr 1
    omega
  have e2 : bc2 (Int32.ofNat (256 * (256 * w1 z + w1 y) + w1 x)) = Int32.ofNat (256 * (256 * w2 (w1 z) + w2 (w1 y)) + w2 (w1 x)) := by
    have h := sp3 (m := 51) (s := 2) x2 y2 z2 (by decide) (by decide)
    have k := sp3 (m := 51) (s := 0) x2 y2 z2 (by decide) (by decide)
    rw [Nat.shiftRight_zero] at k
    unfold bc2
    rw [yk_n (by omega) (by decide), n_and, n_and, show (858993459 : Nat) = 256 * (256 * (256 * 51 + 51) + 51) + 51 from rfl, h, k, n_add]
    unfold w2
    congr 1
    omega
  generalize w2 (w1 x) = p at *
  generalize w2 (w1 y) = q at *
  generalize w2 (w1 z) = r at *
  have e3 : bc3 (Int32.ofNat (256 * (256 * r + q) + p)) = Int32.ofNat (256 * (256 * w3 r + w3 q) + w3 p) := by
    unfold bc3
    rw [yk_n (by omega) (by decide), n_add, n_and, Nat.shiftRight_eq_div_pow]
    have hs : 256 * (256 * r + q) + p + (256 * (256 * r + q) + p) / 2 ^ 4 = 256 * (256 * (r + r / 16) + (q + q / 16 + 16 * (r % 16))) + (p + p / 16 + 16 * (q % 16)) := by
      show 256 * (256 * r + q) + p + (256 * (256 * r + q) + p) / 16 = _
      omega
    have k := sp3 (m := 15) (s := 0) (x := p + p / 16 + 16 * (q % 16)) (y := q + q / 16 + 16 * (r % 16)) (z := r + r / 16) (by omega) (by omega) (by omega) (by decide) (by decide)
    rw [Nat.shiftRight_zero, Nat.shiftRight_zero, Nat.shiftRight_zero, Nat.shiftRight_zero] at k
    rw [hs, show (252645135 : Nat) = 256 * (256 * (256 * 15 + 15) + 15) + 15 from rfl, k]
    have m : ∀ v, v &&& 15 = v % 16 := fun v => Nat.and_two_pow_sub_one_eq_mod v 4
    rw [m, m, m]
    unfold w3
    congr 1
    omega
  have h3 : w3 r ≤ 8 ∧ w3 q ≤ 8 ∧ w3 p ≤ 8 := ⟨by omega, by omega, by omega⟩
  rw [show bcE (Int32.ofNat (256 * (256 * z + y) + x)) = bc5 (bc4 (bc3 (bc2 (bc1 (Int32.ofNat (256 * (256 * z + y) + x)))))) &&& Int32.ofNat 63 from rfl, e1, e2, e3]
  generalize w3 r = u at *
  generalize w3 q = v at *
  generalize w3 p = w at *
  unfold bc4 bc5
  rw [yk_n (by omega) (by decide), n_add, yk_n (by rw [Nat.shiftRight_eq_div_pow]; omega) (by decide), n_add, n_and, Nat.shiftRight_eq_div_pow, Nat.shiftRight_eq_div_pow]
  have m : ∀ v, v &&& 63 = v % 64 := fun v => Nat.and_two_pow_sub_one_eq_mod v 6
  rw [m, cnt_hi hx 13, show (13 : Nat) = 8 + 5 from rfl, cnt_hi hy 5, ← by_2 z hz, ← x5, ← y5, ← z5]
  have d1 : (256 * (256 * u + v) + w) / 2 ^ 8 = 256 * u + v := by
    show (256 * (256 * u + v) + w) / 256 = 256 * u + v
    omega
  have d2 : (256 * (256 * u + v) + w + (256 * u + v)) / 2 ^ 16 = u := by
    show (256 * (256 * u + v) + w + (256 * u + v)) / 65536 = u
    omega
  rw [d1, d2]
  congr 1
  omega
/-- the places of the bits that are set -/
theorem cnt_in {b i j : Nat} (hi : b.testBit i = true) (hj : b.testBit j = true) (h : cnt b i = cnt b j) : i = j := by
  rcases Nat.lt_trichotomy i j with c | c | c
  · obtain ⟨k, rfl⟩ : ∃ k, j = i + 1 + k := ⟨j - (i + 1), by omega⟩
    have := cnt_mono (b := b) (i := i + 1) (k := k)
    rw [cnt_t hi] at this
    omega
  · exact c
  · obtain ⟨k, rfl⟩ : ∃ k, i = j + 1 + k := ⟨i - (j + 1), by omega⟩
    have := cnt_mono (b := b) (i := j + 1) (k := k)
    rw [cnt_t hj] at this
    omega
def bta (b : Nat) (k : Int32) : Nat → Nat → Int32
  | 0, _ => -1
  | r + 1, i => if b.testBit i = true ∧ k = Int32.ofNat (cnt b i) then Int32.ofNat i else bta b k r (i + 1)
theorem bta_n {b : Nat} {k : Int32} : ∀ (r i : Nat), (∀ j, i ≤ j → j < i + r → b.testBit j = true → ¬ k = Int32.ofNat (cnt b j)) → bta b k r i = -1
  | 0, _, _ => rfl
  | r + 1, i, h => by
    show (if b.testBit i = true ∧ k = Int32.ofNat (cnt b i) then Int32.ofNat i else bta b k r (i + 1)) = -1
    rw [if_neg (fun e => h i (Nat.le_refl i) (by omega) e.1 e.2)]
    exact bta_n r (i + 1) (fun j a c => h j (by omega) (by omega))
theorem bta_y {b c : Nat} (hc : b.testBit c = true) : ∀ (r i : Nat), i ≤ c → c < i + r → c < 100 → bta b (Int32.ofNat (cnt b c)) r i = Int32.ofNat c
  | 0, _, h1, h2, _ => by omega
  | r + 1, i, h1, h2, h3 => by
    show (if b.testBit i = true ∧ Int32.ofNat (cnt b c) = Int32.ofNat (cnt b i) then Int32.ofNat i else bta b (Int32.ofNat (cnt b c)) r (i + 1)) = _
    by_cases e : i = c
    · subst e; rw [if_pos ⟨hc, rfl⟩]
    · have l1 := cnt_le (b := b) c
      have l2 := cnt_le (b := b) i
      rw [if_neg (fun q => n_ne (fun w => e (cnt_in q.1 hc w.symm)) (by omega) (by omega) q.2)]
      exact bta_y hc r (i + 1) (by omega) (by omega) h3
theorem bit_n {b i : Nat} (hb : b < 2147483648) (hi : i < 32) : yk (Int32.ofNat b) i &&& Int32.ofNat 1 = b01 (b.testBit i) := by
  rw [yk_n hb hi, n_and, Nat.and_one_is_mod, Nat.shiftRight_eq_div_pow, Nat.testBit_eq_decide_div_mod_eq]
  rcases Nat.mod_two_eq_zero_or_one (b / 2 ^ i) with e | e <;> rw [e] <;> rfl
theorem cnt_ex {b k : Nat} : ∀ n, k < cnt b n → ∃ c, c < n ∧ b.testBit c = true ∧ cnt b c = k
  | 0, h => absurd h (Nat.not_lt_zero k)
  | n + 1, h => by
    cases e : b.testBit n with
    | true =>
      rw [cnt_t e] at h
      by_cases q : k = cnt b n
      · exact ⟨n, Nat.lt_succ_self n, e, q.symm⟩
      · obtain ⟨c, c1, c2, c3⟩ := cnt_ex n (show k < cnt b n by omega)
        exact ⟨c, by omega, c2, c3⟩
    | false =>
      rw [cnt_f e] at h
      obtain ⟨c, c1, c2, c3⟩ := cnt_ex n h
      exact ⟨c, by omega, c2, c3⟩
