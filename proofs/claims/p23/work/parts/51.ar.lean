/-! ===== ints and longs between bounds ===== -/
theorem i32_lo (x : Int32) : -2147483648 ≤ x.toInt := x.le_toInt
theorem i32_hi (x : Int32) : x.toInt ≤ 2147483647 := by have := x.toInt_lt; omega
theorem i64_lo (x : Int64) : -9223372036854775808 ≤ x.toInt := x.le_toInt
theorem i64_hi (x : Int64) : x.toInt ≤ 9223372036854775807 := by have := x.toInt_lt; omega
theorem bm32 {n : Int} (h1 : -2147483648 ≤ n) (h2 : n ≤ 2147483647) : n.bmod (2 ^ 32) = n := Int.bmod_eq_of_le (by omega) (by omega)
theorem bm64 {n : Int} (h1 : -9223372036854775808 ≤ n) (h2 : n ≤ 9223372036854775807) : n.bmod (2 ^ 64) = n := Int.bmod_eq_of_le (by omega) (by omega)
theorem i32_add {a b : Int32} (h1 : -2147483648 ≤ a.toInt + b.toInt) (h2 : a.toInt + b.toInt ≤ 2147483647) : (a + b).toInt = a.toInt + b.toInt := by rw [Int32.toInt_add]; exact bm32 h1 h2
theorem i32_sub {a b : Int32} (h1 : -2147483648 ≤ a.toInt - b.toInt) (h2 : a.toInt - b.toInt ≤ 2147483647) : (a - b).toInt = a.toInt - b.toInt := by rw [Int32.toInt_sub]; exact bm32 h1 h2
theorem i32_mul {a b : Int32} (h1 : -2147483648 ≤ a.toInt * b.toInt) (h2 : a.toInt * b.toInt ≤ 2147483647) : (a * b).toInt = a.toInt * b.toInt := by rw [Int32.toInt_mul]; exact bm32 h1 h2
theorem i64_add {a b : Int64} (h1 : -9223372036854775808 ≤ a.toInt + b.toInt) (h2 : a.toInt + b.toInt ≤ 9223372036854775807) : (a + b).toInt = a.toInt + b.toInt := by rw [Int64.toInt_add]; exact bm64 h1 h2
theorem i64_sub {a b : Int64} (h1 : -9223372036854775808 ≤ a.toInt - b.toInt) (h2 : a.toInt - b.toInt ≤ 9223372036854775807) : (a - b).toInt = a.toInt - b.toInt := by rw [Int64.toInt_sub]; exact bm64 h1 h2
theorem i64_mul {a b : Int64} (h1 : -9223372036854775808 ≤ a.toInt * b.toInt) (h2 : a.toInt * b.toInt ≤ 9223372036854775807) : (a * b).toInt = a.toInt * b.toInt := by rw [Int64.toInt_mul]; exact bm64 h1 h2
theorem i32_nn {x : Int32} (h : 0 ≤ x.toInt) : x.toInt = (x.toBitVec.toNat : Int) := by
  have h2 : x.toInt = x.toBitVec.toInt := rfl
  rw [h2, BitVec.toInt_eq_msb_cond]
  cases hm : x.toBitVec.msb with
  | false => rfl
  | true =>
    rw [h2, BitVec.toInt_eq_msb_cond, hm] at h
    have := x.toBitVec.isLt
    simp at h
    omega
theorem i32_nn2 {x : Int32} (h : x.toBitVec.msb = false) : x.toInt = (x.toBitVec.toNat : Int) := by
  have h2 : x.toInt = x.toBitVec.toInt := rfl
  rw [h2, BitVec.toInt_eq_msb_cond, h]
  rfl
theorem i32_msb {x : Int32} (h : 0 ≤ x.toInt) : x.toBitVec.msb = false := by
  have h2 : x.toInt = x.toBitVec.toInt := rfl
  cases hm : x.toBitVec.msb with
  | false => rfl
  | true =>
    rw [h2, BitVec.toInt_eq_msb_cond, hm] at h
    have := x.toBitVec.isLt
    simp at h
    omega
theorem i32_andr {a b : Int32} (h : 0 ≤ b.toInt) : 0 ≤ (a &&& b).toInt ∧ (a &&& b).toInt ≤ b.toInt := by
  have e : (a &&& b).toBitVec = a.toBitVec &&& b.toBitVec := rfl
  have hm : (a &&& b).toBitVec.msb = false := by rw [e, BitVec.msb_and, i32_msb h, Bool.and_false]
  rw [i32_nn2 hm, i32_nn h, e, BitVec.toNat_and]
  have := Nat.and_le_right (n := a.toBitVec.toNat) (m := b.toBitVec.toNat)
  omega
theorem i32_andl {a b : Int32} (h : 0 ≤ a.toInt) : 0 ≤ (a &&& b).toInt ∧ (a &&& b).toInt ≤ a.toInt := by
  have e : (a &&& b).toBitVec = a.toBitVec &&& b.toBitVec := rfl
  have hm : (a &&& b).toBitVec.msb = false := by rw [e, BitVec.msb_and, i32_msb h, Bool.false_and]
  rw [i32_nn2 hm, i32_nn h, e, BitVec.toNat_and]
  have := Nat.and_le_left (n := a.toBitVec.toNat) (m := b.toBitVec.toNat)
  omega
theorem i32_ne {a : Int32} (h : a.toInt ≠ 0) : a ≠ 0 := fun e => h (by rw [e]; rfl)
theorem i32_ne1 {a : Int32} (h : 0 ≤ a.toInt) : a ≠ -1 := fun e => by rw [e] at h; exact absurd h (by decide)
theorem i32_div {a b : Int32} (ha : 0 ≤ a.toInt) (hb : 0 < b.toInt) : (a / b).toInt = a.toInt / b.toInt := by
  rw [Int32.toInt_div_of_ne_right a b (i32_ne1 (by omega)), Int.tdiv_eq_ediv_of_nonneg ha]
theorem i32_rem {a b : Int32} (hb : 0 < b.toInt) : (a - a / b * b).toInt = a.toInt.tmod b.toInt := by
  have h1 := Int32.toInt_div_of_ne_right a b (i32_ne1 (by omega))
  have h2 : a.toInt.tdiv b.toInt * b.toInt = a.toInt - a.toInt.tmod b.toInt := by
    have := Int.mul_tdiv_add_tmod a.toInt b.toInt
    rw [Int.mul_comm] at this
    omega
  have h3 : (a.toInt.tmod b.toInt).natAbs ≤ a.toInt.natAbs := by
    rw [Int.natAbs_tmod]
    exact Nat.mod_le _ _
  have h4 := i32_lo a
  have h5 := i32_hi a
  have h6 : (a.toInt.tmod b.toInt).natAbs < b.toInt.natAbs := by
    rw [Int.natAbs_tmod]
    exact Nat.mod_lt _ (by omega)
  rw [Int32.toInt_sub, Int32.toInt_mul, h1, h2]
  have e : (a.toInt - (a.toInt - a.toInt.tmod b.toInt).bmod (2 ^ 32)).bmod (2 ^ 32) = (a.toInt - (a.toInt - a.toInt.tmod b.toInt)).bmod (2 ^ 32) := by
    rw [Int.sub_bmod_bmod]
  rw [e]
  have := i32_hi b
  rw [show a.toInt - (a.toInt - a.toInt.tmod b.toInt) = a.toInt.tmod b.toInt by omega]
  exact bm32 (by omega) (by omega)
theorem i32_rem1 {a b : Int32} (ha : 0 ≤ a.toInt) (hb : 0 < b.toInt) : 0 ≤ (a - a / b * b).toInt ∧ (a - a / b * b).toInt ≤ a.toInt ∧ (a - a / b * b).toInt < b.toInt := by
  rw [i32_rem hb, Int.tmod_eq_emod_of_nonneg ha]
  have h0 : 0 ≤ b.toInt * (a.toInt / b.toInt) := Int.mul_nonneg (by omega) (Int.ediv_nonneg ha (by omega))
  have h1 := Int.emod_def a.toInt b.toInt
  exact ⟨Int.emod_nonneg _ (by omega), by omega, Int.emod_lt_of_pos _ hb⟩
theorem i64_ne1 {a : Int64} (h : 0 ≤ a.toInt) : a ≠ -1 := fun e => by rw [e] at h; exact absurd h (by decide)
theorem i64_div {a b : Int64} (ha : 0 ≤ a.toInt) (hb : 0 < b.toInt) : (a / b).toInt = a.toInt / b.toInt := by
  rw [Int64.toInt_div_of_ne_right a b (i64_ne1 (by omega)), Int.tdiv_eq_ediv_of_nonneg ha]
theorem i32_ushr8 (a : Int32) : 0 ≤ ((a.toUInt32 >>> ((8 : Int32).toUInt32 &&& Int32.toUInt32 31)).toInt32).toInt ∧ ((a.toUInt32 >>> ((8 : Int32).toUInt32 &&& Int32.toUInt32 31)).toInt32).toInt ≤ 16777215 := by
  have e : (8 : Int32).toUInt32 &&& Int32.toUInt32 31 = 8 := by decide
  rw [e]
  have e2 : ((a.toUInt32 >>> (8 : UInt32)).toInt32).toBitVec = (a.toUInt32 >>> (8 : UInt32)).toBitVec := rfl
  have e3 : (a.toUInt32 >>> (8 : UInt32)).toNat = a.toUInt32.toNat >>> 8 := by
    rw [UInt32.toNat_shiftRight]; rfl
  have h1 : a.toUInt32.toNat >>> 8 < 16777216 := by
    rw [Nat.shiftRight_eq_div_pow]
    have := a.toUInt32.toNat_lt
    omega
  have hn : ((a.toUInt32 >>> (8 : UInt32)).toInt32).toBitVec.toNat < 16777216 := by
    rw [e2]
    show (a.toUInt32 >>> (8 : UInt32)).toNat < _
    rw [e3]
    exact h1
  have hm : ((a.toUInt32 >>> (8 : UInt32)).toInt32).toBitVec.msb = false := by
    rw [BitVec.msb_eq_decide]
    simp only [decide_eq_false_iff_not]
    omega
  rw [i32_nn2 hm]
  omega
theorem i32_shl1 : ∀ n, n < 31 → ((1 : Int32) <<< (Int32.ofNat n &&& 31)).toInt = (2 ^ n : Int) := by decide +kernel
theorem i32_ofn {x : Int32} {n : Nat} (h : x.toInt = (n : Int)) : x = Int32.ofNat n := by
  apply Int32.toInt_inj.mp
  have := i32_hi x
  rw [h, Int32.toInt_ofNat_of_lt (by omega)]
/-! operations on two ints -/
abbrev F2 : Type := EN → Nat → Int → Nat → Int → EN × SV
def fI (E : EN) (lo hi : Int) : EN × SV := (ef E lo hi, (0, E.length, 0))
def fF (E : EN) : EN × SV := fI E (-2147483648) 2147483647
def in32 (a b : Int) : Bool := decide (-2147483648 ≤ a) && decide (b ≤ 2147483647)
theorem in32_ok {a b : Int} (h : in32 a b = true) : -2147483648 ≤ a ∧ b ≤ 2147483647 := by
  unfold in32 at h
  rw [Bool.and_eq_true] at h
  exact ⟨of_decide_eq_true h.1, of_decide_eq_true h.2⟩
def Res (ρ : List Int) (q : EN × SV) (v : Value) : Prop := ∃ τ, en_ok (ρ ++ τ) q.1 ∧ sv_ok (ρ ++ τ) q.2 v
theorem fI_ok {ρ : List Int} {E : EN} {lo hi : Int} {x : Int32} (h : en_ok ρ E) (h1 : lo ≤ x.toInt) (h2 : x.toInt ≤ hi) : Res ρ (fI E lo hi) (.int x) :=
  ⟨[x.toInt], (ef_ok h h1 h2).1, x, x.toInt, rfl, (ef_ok h h1 h2).2, by omega⟩
theorem fF_ok {ρ : List Int} {E : EN} {x : Int32} (h : en_ok ρ E) : Res ρ (fF E) (.int x) := fI_ok h (i32_lo x) (i32_hi x)
theorem fS_ok {ρ : List Int} {E : EN} {k : Nat} {c z : Int} {x : Int32} (h : en_ok ρ E) (hz : ρ[k]? = some z) (hx : x.toInt = z + c) : Res ρ (E, (0, k, c)) (.int x) :=
  ⟨[], by rw [List.append_nil]; exact h, by rw [List.append_nil]; exact ⟨x, z, rfl, hz, hx⟩⟩
def F2Ok (f : F2) (op : Int32 → Int32 → Int32) : Prop := ∀ (ρ : List Int) (E : EN) (k1 : Nat) (c1 : Int) (k2 : Nat) (c2 : Int) (x1 x2 : Int32) (z1 z2 : Int), en_ok ρ E → ρ[k1]? = some z1 → x1.toInt = z1 + c1 → ρ[k2]? = some z2 → x2.toInt = z2 + c2 → Res ρ (f E k1 c1 k2 c2) (.int (op x1 x2))
def f_full : F2 := fun E _ _ _ _ => fF E
theorem f_full_ok (op : Int32 → Int32 → Int32) : F2Ok f_full op := fun _ _ _ _ _ _ _ _ _ _ h _ _ _ _ => fF_ok h
def f_add : F2 := fun E k1 c1 k2 c2 =>
  cond (in32 ((eg E k1).1 + c1 + ((eg E k2).1 + c2)) ((eg E k1).2.1 + c1 + ((eg E k2).2.1 + c2)))
    (cond (Nat.beq k2 0) (E, (0, k1, c1 + c2)) (cond (Nat.beq k1 0) (E, (0, k2, c1 + c2)) (fI E ((eg E k1).1 + c1 + ((eg E k2).1 + c2)) ((eg E k1).2.1 + c1 + ((eg E k2).2.1 + c2))))) (fF E)
theorem f_add_ok : F2Ok f_add (fun a b => a + b) := by
  intro ρ E k1 c1 k2 c2 x1 x2 z1 z2 h h1 e1 h2 e2
  obtain ⟨a1, a2, -⟩ := eg_ok h h1
  obtain ⟨b1, b2, -⟩ := eg_ok h h2
  unfold f_add
  cases hc : in32 ((eg E k1).1 + c1 + ((eg E k2).1 + c2)) ((eg E k1).2.1 + c1 + ((eg E k2).2.1 + c2)) with
  | false => exact fF_ok h
  | true =>
    obtain ⟨q1, q2⟩ := in32_ok hc
    have hs : (x1 + x2).toInt = x1.toInt + x2.toInt := i32_add (by omega) (by omega)
    simp only [cond_true]
    cases hk : Nat.beq k2 0 with
    | true =>
      have := Nat.eq_of_beq_eq_true hk
      subst this
      rw [h.2.1] at h2
      cases h2
      exact fS_ok h h1 (by rw [hs]; omega)
    | false =>
      simp only [cond_false]
      cases hk : Nat.beq k1 0 with
      | true =>
        have := Nat.eq_of_beq_eq_true hk
        subst this
        rw [h.2.1] at h1
        cases h1
        exact fS_ok h h2 (by rw [hs]; omega)
      | false => exact fI_ok h (by rw [hs]; omega) (by rw [hs]; omega)
def f_sub : F2 := fun E k1 c1 k2 c2 =>
  cond (Nat.beq k1 k2) (cond (in32 (c1 - c2) (c1 - c2)) (E, (0, 0, c1 - c2)) (fF E))
  (cond (in32 ((eg E k1).1 + c1 - ((eg E k2).2.1 + c2)) ((eg E k1).2.1 + c1 - ((eg E k2).1 + c2)))
    (cond (Nat.beq k2 0) (E, (0, k1, c1 - c2)) (fI E (max ((eg E k1).1 + c1 - ((eg E k2).2.1 + c2)) (dlo E 12 k1 c1 k2 c2)) ((eg E k1).2.1 + c1 - ((eg E k2).1 + c2)))) (fF E))
theorem f_sub_ok : F2Ok f_sub (fun a b => a - b) := by
  intro ρ E k1 c1 k2 c2 x1 x2 z1 z2 h h1 e1 h2 e2
  obtain ⟨a1, a2, -⟩ := eg_ok h h1
  obtain ⟨b1, b2, -⟩ := eg_ok h h2
  unfold f_sub
  cases hk : Nat.beq k1 k2 with
  | true =>
    have := Nat.eq_of_beq_eq_true hk
    subst this
    rw [h1] at h2
    cases h2
    simp only [cond_true]
    cases hc : in32 (c1 - c2) (c1 - c2) with
    | false => exact fF_ok h
    | true =>
      obtain ⟨q1, q2⟩ := in32_ok hc
      have hs : (x1 - x2).toInt = x1.toInt - x2.toInt := i32_sub (by omega) (by omega)
      exact fS_ok h h.2.1 (by rw [hs]; omega)
  | false =>
    simp only [cond_false]
    cases hc : in32 ((eg E k1).1 + c1 - ((eg E k2).2.1 + c2)) ((eg E k1).2.1 + c1 - ((eg E k2).1 + c2)) with
    | false => exact fF_ok h
    | true =>
      obtain ⟨q1, q2⟩ := in32_ok hc
      have hs : (x1 - x2).toInt = x1.toInt - x2.toInt := i32_sub (by omega) (by omega)
      simp only [cond_true]
      cases hk : Nat.beq k2 0 with
      | true =>
        have := Nat.eq_of_beq_eq_true hk
        subst this
        rw [h.2.1] at h2
        cases h2
        exact fS_ok h h1 (by rw [hs]; omega)
      | false =>
        have hd := dlo_ok h 12 k1 c1 k2 c2 z1 z2 h1 h2
        exact fI_ok h (Int.max_le.mpr ⟨by rw [hs]; omega, by rw [hs]; omega⟩) (by rw [hs]; omega)
def f_mul : F2 := fun E k1 c1 k2 c2 =>
  cond (decide (0 ≤ (eg E k1).1 + c1) && decide (0 ≤ (eg E k2).1 + c2) && decide (((eg E k1).2.1 + c1) * ((eg E k2).2.1 + c2) ≤ 2147483647))
    (cond (Nat.beq k1 0 && Nat.beq k2 0) (E, (0, 0, c1 * c2)) (fI E (((eg E k1).1 + c1) * ((eg E k2).1 + c2)) (((eg E k1).2.1 + c1) * ((eg E k2).2.1 + c2)))) (fF E)
theorem f_mul_ok : F2Ok f_mul (fun a b => a * b) := by
  intro ρ E k1 c1 k2 c2 x1 x2 z1 z2 h h1 e1 h2 e2
  obtain ⟨a1, a2, -⟩ := eg_ok h h1
  obtain ⟨b1, b2, -⟩ := eg_ok h h2
  unfold f_mul
  cases hc : (decide (0 ≤ (eg E k1).1 + c1) && decide (0 ≤ (eg E k2).1 + c2) && decide (((eg E k1).2.1 + c1) * ((eg E k2).2.1 + c2) ≤ 2147483647)) with
  | false => exact fF_ok h
  | true =>
    rw [Bool.and_eq_true, Bool.and_eq_true] at hc
    have q1 := of_decide_eq_true hc.1.1
    have q2 := of_decide_eq_true hc.1.2
    have q3 := of_decide_eq_true hc.2
    have p1 : ((eg E k1).1 + c1) * ((eg E k2).1 + c2) ≤ x1.toInt * x2.toInt := Int.mul_le_mul (by omega) (by omega) q2 (by omega)
    have p2 : x1.toInt * x2.toInt ≤ ((eg E k1).2.1 + c1) * ((eg E k2).2.1 + c2) := Int.mul_le_mul (by omega) (by omega) (by omega) (by omega)
    have p0 : 0 ≤ ((eg E k1).1 + c1) * ((eg E k2).1 + c2) := Int.mul_nonneg q1 q2
    have hs : (x1 * x2).toInt = x1.toInt * x2.toInt := i32_mul (by omega) (by omega)
    simp only [cond_true]
    cases hk : (Nat.beq k1 0 && Nat.beq k2 0) with
    | true =>
      rw [Bool.and_eq_true] at hk
      have g1 := Nat.eq_of_beq_eq_true hk.1
      have g2 := Nat.eq_of_beq_eq_true hk.2
      subst g1 g2
      rw [h.2.1] at h1 h2
      cases h1
      cases h2
      exact fS_ok h h.2.1 (by rw [hs, e1, e2]; simp)
    | false => exact fI_ok h (by rw [hs]; exact p1) (by rw [hs]; exact p2)
def f_and : F2 := fun E k1 c1 k2 c2 =>
  cond (decide (0 ≤ (eg E k2).1 + c2)) (cond (decide (0 ≤ (eg E k1).1 + c1)) (fI E 0 (min ((eg E k1).2.1 + c1) ((eg E k2).2.1 + c2))) (fI E 0 ((eg E k2).2.1 + c2)))
    (cond (decide (0 ≤ (eg E k1).1 + c1)) (fI E 0 ((eg E k1).2.1 + c1)) (fF E))
theorem f_and_ok : F2Ok f_and (fun a b => a &&& b) := by
  intro ρ E k1 c1 k2 c2 x1 x2 z1 z2 h h1 e1 h2 e2
  obtain ⟨a1, a2, -⟩ := eg_ok h h1
  obtain ⟨b1, b2, -⟩ := eg_ok h h2
  unfold f_and
  cases q2 : decide (0 ≤ (eg E k2).1 + c2) with
  | true =>
    have q2 := of_decide_eq_true q2
    have r2 := i32_andr (a := x1) (b := x2) (by omega)
    simp only [cond_true]
    cases q1 : decide (0 ≤ (eg E k1).1 + c1) with
    | true =>
      have q1 := of_decide_eq_true q1
      have r1 := i32_andl (a := x1) (b := x2) (by omega)
      exact fI_ok h r1.1 (Int.le_min.mpr ⟨by omega, by omega⟩)
    | false => exact fI_ok h r2.1 (by omega)
  | false =>
    simp only [cond_false]
    cases q1 : decide (0 ≤ (eg E k1).1 + c1) with
    | true =>
      have q1 := of_decide_eq_true q1
      have r1 := i32_andl (a := x1) (b := x2) (by omega)
      exact fI_ok h r1.1 (by omega)
    | false => exact fF_ok h
/-- one, shifted -/
def f_shl : F2 := fun E k1 c1 k2 c2 =>
  cond (Nat.beq k1 0 && decide (c1 = 1) && decide (0 ≤ (eg E k2).1 + c2) && decide ((eg E k2).2.1 + c2 ≤ 30)) (fI E 1 (2 ^ ((eg E k2).2.1 + c2).toNat)) (fF E)
theorem f_shl_ok : F2Ok f_shl (fun a b => a <<< (b &&& 31)) := by
  intro ρ E k1 c1 k2 c2 x1 x2 z1 z2 h h1 e1 h2 e2
  obtain ⟨b1, b2, -⟩ := eg_ok h h2
  unfold f_shl
  cases hc : (Nat.beq k1 0 && decide (c1 = 1) && decide (0 ≤ (eg E k2).1 + c2) && decide ((eg E k2).2.1 + c2 ≤ 30)) with
  | false => exact fF_ok h
  | true =>
    rw [Bool.and_eq_true, Bool.and_eq_true, Bool.and_eq_true] at hc
    have q1 := Nat.eq_of_beq_eq_true hc.1.1.1
    have q2 := of_decide_eq_true hc.1.1.2
    have q3 := of_decide_eq_true hc.1.2
    have q4 := of_decide_eq_true hc.2
    subst q1
    rw [h.2.1] at h1
    cases h1
    have ex : x1 = 1 := i32_ofn (n := 1) (by omega)
    have hn : x2.toInt = (x2.toInt.toNat : Int) := (Int.toNat_of_nonneg (by omega)).symm
    have ey : x2 = Int32.ofNat x2.toInt.toNat := i32_ofn hn
    have hs : (x1 <<< (x2 &&& 31)).toInt = (2 ^ x2.toInt.toNat : Int) := by
      rw [ex]
      conv => lhs; rw [ey]
      exact i32_shl1 _ (by omega)
    refine fI_ok h ?_ ?_
    · rw [hs]
      have := Int.pow_pos (n := 2) (m := x2.toInt.toNat) (by decide)
      omega
    · rw [hs]
      have : (2 : Nat) ^ x2.toInt.toNat ≤ 2 ^ ((eg E k2).2.1 + c2).toNat := Nat.pow_le_pow_right (by decide) (by omega)
      exact_mod_cast this
def f_ushr : F2 := fun E _ _ k2 c2 => cond (Nat.beq k2 0 && decide (c2 = 8)) (fI E 0 16777215) (fF E)
theorem f_ushr_ok : F2Ok f_ushr (fun a b => (a.toUInt32 >>> (b.toUInt32 &&& Int32.toUInt32 31)).toInt32) := by
  intro ρ E k1 c1 k2 c2 x1 x2 z1 z2 h h1 e1 h2 e2
  unfold f_ushr
  cases hc : (Nat.beq k2 0 && decide (c2 = 8)) with
  | false => exact fF_ok h
  | true =>
    rw [Bool.and_eq_true] at hc
    have q1 := Nat.eq_of_beq_eq_true hc.1
    have q2 := of_decide_eq_true hc.2
    subst q1
    rw [h.2.1] at h2
    cases h2
    have ex : x2 = 8 := i32_ofn (n := 8) (by omega)
    subst ex
    exact fI_ok h (i32_ushr8 x1).1 (i32_ushr8 x1).2
/-- a divisor above 0 -/
def f_div : F2 := fun E k1 c1 k2 c2 =>
  cond (decide (0 ≤ (eg E k1).1 + c1) && Nat.beq k2 0) (fI E (((eg E k1).1 + c1) / c2) (((eg E k1).2.1 + c1) / c2)) (fF E)
theorem f_div_ok {ρ : List Int} {E : EN} {k1 k2 : Nat} {c1 c2 z1 z2 : Int} {x1 x2 : Int32} (h : en_ok ρ E) (h1 : ρ[k1]? = some z1) (e1 : x1.toInt = z1 + c1) (h2 : ρ[k2]? = some z2) (e2 : x2.toInt = z2 + c2) (hp : 0 < x2.toInt) : Res ρ (f_div E k1 c1 k2 c2) (.int (x1 / x2)) := by
  obtain ⟨a1, a2, -⟩ := eg_ok h h1
  unfold f_div
  cases hc : (decide (0 ≤ (eg E k1).1 + c1) && Nat.beq k2 0) with
  | false => exact fF_ok h
  | true =>
    rw [Bool.and_eq_true] at hc
    have q1 := of_decide_eq_true hc.1
    have q2 := Nat.eq_of_beq_eq_true hc.2
    subst q2
    rw [h.2.1] at h2
    cases h2
    have e3 : x2.toInt = c2 := by omega
    have hs := i32_div (a := x1) (b := x2) (by omega) hp
    rw [e3] at hs hp
    exact fI_ok h (by rw [hs]; exact Int.ediv_le_ediv hp (by omega)) (by rw [hs]; exact Int.ediv_le_ediv hp (by omega))
def f_rem : F2 := fun E k1 c1 k2 c2 =>
  cond (decide (0 ≤ (eg E k1).1 + c1)) (fI E 0 (min ((eg E k1).2.1 + c1) ((eg E k2).2.1 + c2 - 1))) (fF E)
theorem f_rem_ok {ρ : List Int} {E : EN} {k1 k2 : Nat} {c1 c2 z1 z2 : Int} {x1 x2 : Int32} (h : en_ok ρ E) (h1 : ρ[k1]? = some z1) (e1 : x1.toInt = z1 + c1) (h2 : ρ[k2]? = some z2) (e2 : x2.toInt = z2 + c2) (hp : 0 < x2.toInt) : Res ρ (f_rem E k1 c1 k2 c2) (.int (x1 - x1 / x2 * x2)) := by
  obtain ⟨a1, a2, -⟩ := eg_ok h h1
  obtain ⟨b1, b2, -⟩ := eg_ok h h2
  unfold f_rem
  cases q1 : decide (0 ≤ (eg E k1).1 + c1) with
  | false => exact fF_ok h
  | true =>
    have q1 := of_decide_eq_true q1
    obtain ⟨r1, r2, r3⟩ := i32_rem1 (a := x1) (b := x2) (by omega) hp
    exact fI_ok h r1 (Int.le_min.mpr ⟨by omega, by omega⟩)
