/-! ===== instructions that take from the stack and lay one value there ===== -/
abbrev PF : Type := EN → List SV → Option (EN × SV × List SV)
def PushOk (i : Instr) (x y n : Nat) (f : PF) : Prop := ∀ (ρ : List Int) (E : EN) (A : List SV) (st : List Value) (q : EN × SV × List SV), en_ok ρ E → ss_ok ρ A st → f E A = some q → ∃ v r, Res ρ (q.1, q.2.1) v ∧ ss_ok ρ q.2.2 r ∧ ∀ M cf mi pc L hp K, ev_s M cf mi pc i x y L st hp 0 0 K = K (pc + n) L (v :: r) hp 0 0
def fC (n : Int) : PF := fun E A => cond (in32 n n) (some (E, (0, 0, n), A)) none
theorem fC_ok {i : Instr} {x y m : Nat} {n : Int} {w : Int32} (hw : -2147483648 ≤ n → n ≤ 2147483647 → w.toInt = n) (hs : ∀ (st : List Value) M cf mi pc L hp K, ev_s M cf mi pc i x y L st hp 0 0 K = K (pc + m) L (.int w :: st) hp 0 0) : PushOk i x y m (fC n) := by
  intro ρ E A st q h hA hq
  unfold fC at hq
  cases hc : in32 n n with
  | false => rw [hc] at hq; cases hq
  | true =>
    rw [hc] at hq
    cases hq
    obtain ⟨q1, q2⟩ := in32_ok hc
    exact ⟨.int w, st, fS_ok h h.2.1 (by rw [hw q1 q2]; omega), hA, hs st⟩
def fB (f : F2) : PF := fun E A => match A with
  | (0, k2, c2) :: (0, k1, c1) :: r => some ((f E k1 c1 k2 c2).1, (f E k1 c1 k2 c2).2, r)
  | _ => none
theorem fB_ok {i : Instr} {x y : Nat} {f : F2} {op : Int32 → Int32 → Int32} (hf : F2Ok f op) (hs : ∀ (a b : Int32) (r : List Value) M cf mi pc L hp K, ev_s M cf mi pc i x y L (.int b :: .int a :: r) hp 0 0 K = K (pc + 1) L (.int (op a b) :: r) hp 0 0) : PushOk i x y 1 (fB f) := by
  intro ρ E A st q h hA hq
  unfold fB at hq
  split at hq
  · cases hq
    obtain ⟨v, r1, rfl, hv, hA1⟩ := ss_c hA
    obtain ⟨w, r2, rfl, hw, hA2⟩ := ss_c hA1
    obtain ⟨b, z2, rfl, e1, e2⟩ := hv
    obtain ⟨a, z1, rfl, e3, e4⟩ := hw
    exact ⟨_, r2, hf ρ E _ _ _ _ a b z1 z2 h e3 e4 e1 e2, hA2, hs a b r2⟩
  · cases hq
/-- a divisor above 0 -/
def fD (f : F2) : PF := fun E A => match A with
  | (0, k2, c2) :: (0, k1, c1) :: r => cond (decide (0 < (eg E k2).1 + c2)) (some ((f E k1 c1 k2 c2).1, (f E k1 c1 k2 c2).2, r)) none
  | _ => none
theorem fD_ok {i : Instr} {x y : Nat} {f : F2} {op : Int32 → Int32 → Int32} (hf : ∀ {ρ : List Int} {E : EN} {k1 k2 : Nat} {c1 c2 z1 z2 : Int} {x1 x2 : Int32}, en_ok ρ E → ρ[k1]? = some z1 → x1.toInt = z1 + c1 → ρ[k2]? = some z2 → x2.toInt = z2 + c2 → 0 < x2.toInt → Res ρ (f E k1 c1 k2 c2) (.int (op x1 x2))) (hs : ∀ (a b : Int32) (r : List Value) M cf mi pc L hp K, b ≠ 0 → ev_s M cf mi pc i x y L (.int b :: .int a :: r) hp 0 0 K = K (pc + 1) L (.int (op a b) :: r) hp 0 0) : PushOk i x y 1 (fD f) := by
  intro ρ E A st q h hA hq
  unfold fD at hq
  split at hq
  · rename_i k2 c2 k1 c1 r
    cases hc : decide (0 < (eg E k2).1 + c2) with
    | false => rw [hc] at hq; cases hq
    | true =>
      rw [hc] at hq
      cases hq
      obtain ⟨v, r1, rfl, hv, hA1⟩ := ss_c hA
      obtain ⟨w, r2, rfl, hw, hA2⟩ := ss_c hA1
      obtain ⟨b, z2, rfl, e1, e2⟩ := hv
      obtain ⟨a, z1, rfl, e3, e4⟩ := hw
      obtain ⟨b1, -, -⟩ := eg_ok h e1
      have hp : 0 < b.toInt := by have := of_decide_eq_true hc; omega
      exact ⟨_, r2, hf h e3 e4 e1 e2 hp, hA2, fun M cf mi pc L hp' K => hs a b r2 M cf mi pc L hp' K (i32_ne (by omega))⟩
  · cases hq
/-- of one int, any int between two bounds -/
def fU (lo hi : Int) : PF := fun E A => match A with
  | (0, _, _) :: r => some ((fI E lo hi).1, (fI E lo hi).2, r)
  | _ => none
theorem fU_ok {i : Instr} {x y : Nat} {lo hi : Int} {op : Int32 → Int32} (hl : ∀ a, lo ≤ (op a).toInt ∧ (op a).toInt ≤ hi) (hs : ∀ (a : Int32) (r : List Value) M cf mi pc L hp K, ev_s M cf mi pc i x y L (.int a :: r) hp 0 0 K = K (pc + 1) L (.int (op a) :: r) hp 0 0) : PushOk i x y 1 (fU lo hi) := by
  intro ρ E A st q h hA hq
  unfold fU at hq
  split at hq
  · cases hq
    obtain ⟨v, r1, rfl, hv, hA1⟩ := ss_c hA
    obtain ⟨b, z2, rfl, e1, e2⟩ := hv
    exact ⟨_, r1, fI_ok h (hl b).1 (hl b).2, hA1, hs b r1⟩
  · cases hq
/-! longs -/
def gI64 (E : EN) (lo hi : Int) : EN × SV := (ef E lo hi, (1, E.length, 0))
def gF64 (E : EN) : EN × SV := gI64 E (-9223372036854775808) 9223372036854775807
theorem gI_ok {ρ : List Int} {E : EN} {lo hi : Int} {x : Int64} (h : en_ok ρ E) (h1 : lo ≤ x.toInt) (h2 : x.toInt ≤ hi) : Res ρ (gI64 E lo hi) (.long x) :=
  ⟨[x.toInt], (ef_ok h h1 h2).1, x, x.toInt, rfl, (ef_ok h h1 h2).2, by omega⟩
theorem gF_ok {ρ : List Int} {E : EN} {x : Int64} (h : en_ok ρ E) : Res ρ (gF64 E) (.long x) := gI_ok h (i64_lo x) (i64_hi x)
def in64 (a b : Int) : Bool := decide (-9223372036854775808 ≤ a) && decide (b ≤ 9223372036854775807)
theorem in64_ok {a b : Int} (h : in64 a b = true) : -9223372036854775808 ≤ a ∧ b ≤ 9223372036854775807 := by
  unfold in64 at h
  rw [Bool.and_eq_true] at h
  exact ⟨of_decide_eq_true h.1, of_decide_eq_true h.2⟩
def G2Ok (f : F2) (op : Int64 → Int64 → Int64) : Prop := ∀ (ρ : List Int) (E : EN) (k1 : Nat) (c1 : Int) (k2 : Nat) (c2 : Int) (x1 x2 : Int64) (z1 z2 : Int), en_ok ρ E → ρ[k1]? = some z1 → x1.toInt = z1 + c1 → ρ[k2]? = some z2 → x2.toInt = z2 + c2 → Res ρ (f E k1 c1 k2 c2) (.long (op x1 x2))
def g_full : F2 := fun E _ _ _ _ => gF64 E
theorem g_full_ok (op : Int64 → Int64 → Int64) : G2Ok g_full op := fun _ _ _ _ _ _ _ _ _ _ h _ _ _ _ => gF_ok h
def g_add : F2 := fun E k1 c1 k2 c2 =>
  cond (in64 ((eg E k1).1 + c1 + ((eg E k2).1 + c2)) ((eg E k1).2.1 + c1 + ((eg E k2).2.1 + c2))) (gI64 E ((eg E k1).1 + c1 + ((eg E k2).1 + c2)) ((eg E k1).2.1 + c1 + ((eg E k2).2.1 + c2))) (gF64 E)
theorem g_add_ok : G2Ok g_add (fun a b => a + b) := by
  intro ρ E k1 c1 k2 c2 x1 x2 z1 z2 h h1 e1 h2 e2
  obtain ⟨a1, a2, -⟩ := eg_ok h h1
  obtain ⟨b1, b2, -⟩ := eg_ok h h2
  unfold g_add
  cases hc : in64 ((eg E k1).1 + c1 + ((eg E k2).1 + c2)) ((eg E k1).2.1 + c1 + ((eg E k2).2.1 + c2)) with
  | false => exact gF_ok h
  | true =>
    obtain ⟨q1, q2⟩ := in64_ok hc
    have hs : (x1 + x2).toInt = x1.toInt + x2.toInt := i64_add (by omega) (by omega)
    exact gI_ok h (by rw [hs]; omega) (by rw [hs]; omega)
def g_sub : F2 := fun E k1 c1 k2 c2 =>
  cond (in64 ((eg E k1).1 + c1 - ((eg E k2).2.1 + c2)) ((eg E k1).2.1 + c1 - ((eg E k2).1 + c2))) (gI64 E ((eg E k1).1 + c1 - ((eg E k2).2.1 + c2)) ((eg E k1).2.1 + c1 - ((eg E k2).1 + c2))) (gF64 E)
theorem g_sub_ok : G2Ok g_sub (fun a b => a - b) := by
  intro ρ E k1 c1 k2 c2 x1 x2 z1 z2 h h1 e1 h2 e2
  obtain ⟨a1, a2, -⟩ := eg_ok h h1
  obtain ⟨b1, b2, -⟩ := eg_ok h h2
  unfold g_sub
  cases hc : in64 ((eg E k1).1 + c1 - ((eg E k2).2.1 + c2)) ((eg E k1).2.1 + c1 - ((eg E k2).1 + c2)) with
  | false => exact gF_ok h
  | true =>
    obtain ⟨q1, q2⟩ := in64_ok hc
    have hs : (x1 - x2).toInt = x1.toInt - x2.toInt := i64_sub (by omega) (by omega)
    exact gI_ok h (by rw [hs]; omega) (by rw [hs]; omega)
/-- a constant above 0, times -/
def g_mul : F2 := fun E k1 c1 k2 c2 =>
  cond (Nat.beq k1 0 && decide (0 ≤ c1) && in64 (c1 * ((eg E k2).1 + c2)) (c1 * ((eg E k2).2.1 + c2))) (gI64 E (c1 * ((eg E k2).1 + c2)) (c1 * ((eg E k2).2.1 + c2))) (gF64 E)
theorem g_mul_ok : G2Ok g_mul (fun a b => a * b) := by
  intro ρ E k1 c1 k2 c2 x1 x2 z1 z2 h h1 e1 h2 e2
  obtain ⟨b1, b2, -⟩ := eg_ok h h2
  unfold g_mul
  cases hc : (Nat.beq k1 0 && decide (0 ≤ c1) && in64 (c1 * ((eg E k2).1 + c2)) (c1 * ((eg E k2).2.1 + c2))) with
  | false => exact gF_ok h
  | true =>
    rw [Bool.and_eq_true, Bool.and_eq_true] at hc
    have q1 := Nat.eq_of_beq_eq_true hc.1.1
    have q2 := of_decide_eq_true hc.1.2
    obtain ⟨q3, q4⟩ := in64_ok hc.2
    subst q1
    rw [h.2.1] at h1
    cases h1
    have e3 : x1.toInt = c1 := by omega
    have p1 : c1 * ((eg E k2).1 + c2) ≤ c1 * x2.toInt := Int.mul_le_mul_of_nonneg_left (by omega) q2
    have p2 : c1 * x2.toInt ≤ c1 * ((eg E k2).2.1 + c2) := Int.mul_le_mul_of_nonneg_left (by omega) q2
    have hs : (x1 * x2).toInt = c1 * x2.toInt := by rw [← e3]; exact i64_mul (by rw [e3]; omega) (by rw [e3]; omega)
    exact gI_ok h (by rw [hs]; exact p1) (by rw [hs]; exact p2)
def gB (f : F2) : PF := fun E A => match A with
  | (1, k2, c2) :: (1, k1, c1) :: r => some ((f E k1 c1 k2 c2).1, (f E k1 c1 k2 c2).2, r)
  | _ => none
theorem gB_ok {i : Instr} {x y : Nat} {f : F2} {op : Int64 → Int64 → Int64} (hf : G2Ok f op) (hs : ∀ (a b : Int64) (r : List Value) M cf mi pc L hp K, ev_s M cf mi pc i x y L (.long b :: .long a :: r) hp 0 0 K = K (pc + 1) L (.long (op a b) :: r) hp 0 0) : PushOk i x y 1 (gB f) := by
  intro ρ E A st q h hA hq
  unfold gB at hq
  split at hq
  · cases hq
    obtain ⟨v, r1, rfl, hv, hA1⟩ := ss_c hA
    obtain ⟨w, r2, rfl, hw, hA2⟩ := ss_c hA1
    obtain ⟨b, z2, rfl, e1, e2⟩ := hv
    obtain ⟨a, z1, rfl, e3, e4⟩ := hw
    exact ⟨_, r2, hf ρ E _ _ _ _ a b z1 z2 h e3 e4 e1 e2, hA2, hs a b r2⟩
  · cases hq
/-- a long by a constant above 0 -/
def gD : PF := fun E A => match A with
  | (1, 0, c2) :: (1, k1, c1) :: r => cond (decide (0 < c2)) (cond (decide (0 ≤ (eg E k1).1 + c1)) (some ((gI64 E (((eg E k1).1 + c1) / c2) (((eg E k1).2.1 + c1) / c2)).1, (gI64 E (((eg E k1).1 + c1) / c2) (((eg E k1).2.1 + c1) / c2)).2, r)) (some ((gF64 E).1, (gF64 E).2, r))) none
  | _ => none
theorem i64_ne {a : Int64} (h : a.toInt ≠ 0) : a ≠ 0 := fun e => h (by rw [e]; rfl)
theorem gD_ok {x y : Nat} : PushOk .ldiv x y 1 gD := by
  intro ρ E A st q h hA hq
  unfold gD at hq
  split at hq
  · rename_i c2 k1 c1 r
    cases hc : decide (0 < c2) with
    | false => rw [hc] at hq; cases hq
    | true =>
      rw [hc] at hq
      have hc := of_decide_eq_true hc
      obtain ⟨v, r1, rfl, hv, hA1⟩ := ss_c hA
      obtain ⟨w, r2, rfl, hw, hA2⟩ := ss_c hA1
      obtain ⟨b, z2, rfl, e1, e2⟩ := hv
      obtain ⟨a, z1, rfl, e3, e4⟩ := hw
      rw [h.2.1] at e1
      cases e1
      obtain ⟨a1, a2, -⟩ := eg_ok h e3
      have e5 : b.toInt = c2 := by omega
      have hb : b ≠ 0 := i64_ne (by omega)
      have hs : ∀ M cf mi pc L hp K, ev_s M cf mi pc .ldiv x y L (.long b :: .long a :: r2) hp 0 0 K = K (pc + 1) L (.long (a / b) :: r2) hp 0 0 := fun M cf mi pc L hp K => by
        show (if b = 0 then none else K (pc + 1) L (.long (a / b) :: r2) hp 0 0) = _
        rw [if_neg hb]
      cases hd : decide (0 ≤ (eg E k1).1 + c1) with
      | false => rw [hd] at hq; cases hq; exact ⟨_, r2, gF_ok h, hA2, hs⟩
      | true =>
        rw [hd] at hq
        cases hq
        have hd := of_decide_eq_true hd
        have hv := i64_div (a := a) (b := b) (by omega) (by omega)
        rw [e5] at hv
        exact ⟨_, r2, gI_ok h (by rw [hv]; exact Int.ediv_le_ediv hc (by omega)) (by rw [hv]; exact Int.ediv_le_ediv hc (by omega)), hA2, hs⟩
  · cases hq
def gR : PF := fun E A => match A with
  | (1, 0, c2) :: (1, _, _) :: r => cond (decide (0 < c2)) (some ((gF64 E).1, (gF64 E).2, r)) none
  | _ => none
theorem gR_ok {x y : Nat} : PushOk .lrem x y 1 gR := by
  intro ρ E A st q h hA hq
  unfold gR at hq
  split at hq
  · rename_i c2 k1 c1 r
    cases hc : decide (0 < c2) with
    | false => rw [hc] at hq; cases hq
    | true =>
      rw [hc] at hq
      cases hq
      have hc := of_decide_eq_true hc
      obtain ⟨v, r1, rfl, hv, hA1⟩ := ss_c hA
      obtain ⟨w, r2, rfl, hw, hA2⟩ := ss_c hA1
      obtain ⟨b, z2, rfl, e1, e2⟩ := hv
      obtain ⟨a, z1, rfl, e3, e4⟩ := hw
      rw [h.2.1] at e1
      cases e1
      have hb : b ≠ 0 := i64_ne (by omega)
      refine ⟨_, r2, gF_ok (x := a - a / b * b) h, hA2, fun M cf mi pc L hp K => ?_⟩
      show (if b = 0 then none else K (pc + 1) L (.long (a - a / b * b) :: r2) hp 0 0) = _
      rw [if_neg hb]
  · cases hq
def gX (t : Nat) : PF := fun E A => match A with
  | (0, k, c) :: r => cond (Nat.beq t 0) (some (E, (1, k, c), r)) none
  | (1, _, _) :: r => cond (Nat.beq t 1) (some ((fF E).1, (fF E).2, r)) none
  | _ => none
theorem gX_i2l {x y : Nat} : PushOk .i2l x y 1 (gX 0) := by
  intro ρ E A st q h hA hq
  unfold gX at hq
  split at hq
  · cases hq
    obtain ⟨v, r1, rfl, hv, hA1⟩ := ss_c hA
    obtain ⟨a, z1, rfl, e3, e4⟩ := hv
    exact ⟨.long a.toInt64, r1, ⟨[], by rw [List.append_nil]; exact h, by rw [List.append_nil]; exact ⟨a.toInt64, z1, rfl, e3, by rw [Int32.toInt_toInt64]; exact e4⟩⟩, hA1, fun M cf mi pc L hp K => rfl⟩
  · cases hq
  · cases hq
theorem gX_l2i {x y : Nat} : PushOk .l2i x y 1 (gX 1) := by
  intro ρ E A st q h hA hq
  unfold gX at hq
  split at hq
  · cases hq
  · cases hq
    obtain ⟨v, r1, rfl, hv, hA1⟩ := ss_c hA
    obtain ⟨a, z1, rfl, e3, e4⟩ := hv
    exact ⟨.int a.toInt32, r1, fF_ok h, hA1, fun M cf mi pc L hp K => rfl⟩
  · cases hq
/-- two longs, an int -/
def gC2 : PF := fun E A => match A with
  | (1, _, _) :: (1, _, _) :: r => some ((fI E (-1) 1).1, (fI E (-1) 1).2, r)
  | _ => none
theorem lgcmp (a b : Int64) : -1 ≤ (lg_cmp a b).toInt ∧ (lg_cmp a b).toInt ≤ 1 := by
  unfold lg_cmp
  split
  · decide
  · split <;> decide
theorem gC2_ok {x y : Nat} : PushOk .lcmp x y 1 gC2 := by
  intro ρ E A st q h hA hq
  unfold gC2 at hq
  split at hq
  · cases hq
    obtain ⟨v, r1, rfl, hv, hA1⟩ := ss_c hA
    obtain ⟨w, r2, rfl, hw, hA2⟩ := ss_c hA1
    obtain ⟨b, z2, rfl, e1, e2⟩ := hv
    obtain ⟨a, z1, rfl, e3, e4⟩ := hw
    exact ⟨_, r2, fI_ok (x := lg_cmp a b) h (lgcmp a b).1 (lgcmp a b).2, hA2, fun M cf mi pc L hp K => rfl⟩
  · cases hq
/-- an int above a long -/
def gS2 : PF := fun E A => match A with
  | (0, _, _) :: (1, _, _) :: r => some ((gF64 E).1, (gF64 E).2, r)
  | _ => none
theorem gS2_ok {i : Instr} {x y : Nat} {op : Int64 → Int32 → Int64} (hs : ∀ (a : Int64) (b : Int32) (r : List Value) M cf mi pc L hp K, ev_s M cf mi pc i x y L (.int b :: .long a :: r) hp 0 0 K = K (pc + 1) L (.long (op a b) :: r) hp 0 0) : PushOk i x y 1 gS2 := by
  intro ρ E A st q h hA hq
  unfold gS2 at hq
  split at hq
  · cases hq
    obtain ⟨v, r1, rfl, hv, hA1⟩ := ss_c hA
    obtain ⟨w, r2, rfl, hw, hA2⟩ := ss_c hA1
    obtain ⟨b, z2, rfl, e1, e2⟩ := hv
    obtain ⟨a, z1, rfl, e3, e4⟩ := hw
    exact ⟨_, r2, gF_ok (x := op a b) h, hA2, hs a b r2⟩
  · cases hq
def gK (n : Int) : PF := fun E A => cond (in64 n n) (some (E, (1, 0, n), A)) none
theorem gK_ok {i : Instr} {x y m : Nat} {n : Int} {w : Int64} (hw : -9223372036854775808 ≤ n → n ≤ 9223372036854775807 → w.toInt = n) (hs : ∀ (st : List Value) M cf mi pc L hp K, ev_s M cf mi pc i x y L st hp 0 0 K = K (pc + m) L (.long w :: st) hp 0 0) : PushOk i x y m (gK n) := by
  intro ρ E A st q h hA hq
  unfold gK at hq
  cases hc : in64 n n with
  | false => rw [hc] at hq; cases hq
  | true =>
    rw [hc] at hq
    cases hq
    obtain ⟨q1, q2⟩ := in64_ok hc
    exact ⟨.long w, st, ⟨[], by rw [List.append_nil]; exact h, by rw [List.append_nil]; exact ⟨w, 0, rfl, h.2.1, by rw [hw q1 q2]; omega⟩⟩, hA, hs st⟩
/-- which of them an instruction is: its length, what it does -/
def fT (x : Nat) : PF := fun E A => some (E, (4, x, 0), A)
def po (i : Instr) (x y : Nat) : Option (Nat × PF) :=
  match i with
  | .iconst n => some (1, fC n)
  | .bipush n => cond (decide (-128 ≤ n) && decide (n ≤ 127)) (some (2, fC n)) none
  | .sipush n => cond (decide (-32768 ≤ n) && decide (n ≤ 32767)) (some (3, fC n)) none
  | .ldc _ => cond (Nat.beq y 1) (cond (Nat.ble 300 x && Nat.blt x 304) (some (2, fT x)) none) (some (2, fC x))
  | .ldc_w _ => some (3, fC x)
  | .lconst n => some (1, gK (n : Nat))
  | .ldc2_w _ => some (3, gK x)
  | .iadd => some (1, fB f_add)
  | .isub => some (1, fB f_sub)
  | .imul => some (1, fB f_mul)
  | .iand => some (1, fB f_and)
  | .ior => some (1, fB f_full)
  | .ixor => some (1, fB f_full)
  | .ishl => some (1, fB f_shl)
  | .ishr => some (1, fB f_full)
  | .iushr => some (1, fB f_ushr)
  | .idiv => some (1, fD f_div)
  | .irem => some (1, fD f_rem)
  | .ineg => some (1, fU (-2147483648) 2147483647)
  | .i2b => some (1, fU (-128) 127)
  | .i2c => some (1, fU (-2147483648) 2147483647)
  | .i2l => some (1, gX 0)
  | .l2i => some (1, gX 1)
  | .ladd => some (1, gB g_add)
  | .lsub => some (1, gB g_sub)
  | .lmul => some (1, gB g_mul)
  | .land => some (1, gB g_full)
  | .lor => some (1, gB g_full)
  | .ldiv => some (1, gD)
  | .lrem => some (1, gR)
  | .lcmp => some (1, gC2)
  | .lshl => some (1, gS2)
  | .lushr => some (1, gS2)
  | _ => none
theorem po_ok {i : Instr} {x y n : Nat} {f : PF} (h : po i x y = some (n, f)) : PushOk i x y n f := by
  unfold po at h
  split at h
  · cases h; exact fC_ok (fun a b => Int32.toInt_ofInt_of_le (by omega) (by omega)) (fun _ _ _ _ _ _ _ _ => rfl)
  · rename_i n
    cases hc : (decide (-128 ≤ n) && decide (n ≤ 127)) with
    | false => rw [hc] at h; cases h
    | true =>
      rw [hc] at h
      cases h
      rw [Bool.and_eq_true] at hc
      have q1 := of_decide_eq_true hc.1
      have q2 := of_decide_eq_true hc.2
      exact fC_ok (fun a b => by rw [Int8.toInt_toInt32, Int8.toInt_ofInt_of_le (by omega) (by omega)]) (fun _ _ _ _ _ _ _ _ => rfl)
  · rename_i n
    cases hc : (decide (-32768 ≤ n) && decide (n ≤ 32767)) with
    | false => rw [hc] at h; cases h
    | true =>
      rw [hc] at h
      cases h
      rw [Bool.and_eq_true] at hc
      have q1 := of_decide_eq_true hc.1
      have q2 := of_decide_eq_true hc.2
      exact fC_ok (fun a b => by rw [Int16.toInt_toInt32, Int16.toInt_ofInt_of_le (by omega) (by omega)]) (fun _ _ _ _ _ _ _ _ => rfl)
  · cases hy : Nat.beq y 1 with
    | true =>
      rw [hy] at h
      cases hc : (Nat.ble 300 x && Nat.blt x 304) with
      | false => rw [hc] at h; cases h
      | true =>
        rw [hc] at h
        cases h
        rw [Bool.and_eq_true] at hc
        have hy := Nat.eq_of_beq_eq_true hy
        subst hy
        intro ρ E A st q h hA hq
        cases hq
        refine ⟨.retAddr x, st, ⟨[], by rw [List.append_nil]; exact h, by rw [List.append_nil]; rfl⟩, hA, fun M cf mi pc L hp K => ?_⟩
        show (if 1 = 1 then (if 300 ≤ x ∧ x < 304 then K (pc + 2) L (.retAddr x :: st) hp 0 0 else none) else K (pc + 2) L (.int (Int32.ofNat x) :: st) hp 0 0) = _
        rw [if_pos rfl, if_pos ⟨Nat.le_of_ble_eq_true hc.1, Nat.le_of_ble_eq_true hc.2⟩]
    | false =>
      rw [hy] at h
      cases h
      refine fC_ok (fun a b => Int32.toInt_ofNat_of_lt (by omega)) (fun st M cf mi pc L hp K => ?_)
      show (if y = 1 then _ else _) = _
      rw [if_neg (Nat.ne_of_beq_eq_false hy)]
  · cases h; exact fC_ok (fun a b => Int32.toInt_ofNat_of_lt (by omega)) (fun _ _ _ _ _ _ _ _ => rfl)
  · cases h; exact gK_ok (fun a b => Int64.toInt_ofNat_of_lt (by omega)) (fun _ _ _ _ _ _ _ _ => rfl)
  · cases h; exact gK_ok (fun a b => Int64.toInt_ofNat_of_lt (by omega)) (fun _ _ _ _ _ _ _ _ => rfl)
  · cases h; exact fB_ok f_add_ok (fun _ _ _ _ _ _ _ _ _ _ => rfl)
  · cases h; exact fB_ok f_sub_ok (fun _ _ _ _ _ _ _ _ _ _ => rfl)
  · cases h; exact fB_ok f_mul_ok (fun _ _ _ _ _ _ _ _ _ _ => rfl)
  · cases h; exact fB_ok f_and_ok (fun _ _ _ _ _ _ _ _ _ _ => rfl)
  · cases h; exact fB_ok (f_full_ok (fun a b => a ||| b)) (fun _ _ _ _ _ _ _ _ _ _ => rfl)
  · cases h; exact fB_ok (f_full_ok (fun a b => a ^^^ b)) (fun _ _ _ _ _ _ _ _ _ _ => rfl)
  · cases h; exact fB_ok f_shl_ok (fun _ _ _ _ _ _ _ _ _ _ => rfl)
  · cases h; exact fB_ok (f_full_ok (fun a b => a >>> (b &&& 31))) (fun _ _ _ _ _ _ _ _ _ _ => rfl)
  · cases h; exact fB_ok f_ushr_ok (fun _ _ _ _ _ _ _ _ _ _ => rfl)
  · cases h; exact fD_ok (op := fun a b => a / b) f_div_ok (fun a b r M cf mi pc L hp K hb => by show (if b = 0 then none else K (pc + 1) L (.int (a / b) :: r) hp 0 0) = _; rw [if_neg hb])
  · cases h; exact fD_ok (op := fun a b => a - a / b * b) f_rem_ok (fun a b r M cf mi pc L hp K hb => by show (if b = 0 then none else K (pc + 1) L (.int (a - a / b * b) :: r) hp 0 0) = _; rw [if_neg hb])
  · cases h; exact fU_ok (op := fun a => -a) (fun a => ⟨i32_lo _, i32_hi _⟩) (fun _ _ _ _ _ _ _ _ _ => rfl)
  · cases h; exact fU_ok (op := fun a => a.toInt8.toInt32) (fun a => ⟨by rw [Int8.toInt_toInt32]; exact Int8.le_toInt _, by rw [Int8.toInt_toInt32]; have := Int8.toInt_lt a.toInt8; omega⟩) (fun _ _ _ _ _ _ _ _ _ => rfl)
  · cases h; exact fU_ok (op := fun a => (a.toUInt32 % 65536).toInt32) (fun a => ⟨i32_lo _, i32_hi _⟩) (fun _ _ _ _ _ _ _ _ _ => rfl)
  · cases h; exact gX_i2l
  · cases h; exact gX_l2i
  · cases h; exact gB_ok g_add_ok (fun _ _ _ _ _ _ _ _ _ _ => rfl)
  · cases h; exact gB_ok g_sub_ok (fun _ _ _ _ _ _ _ _ _ _ => rfl)
  · cases h; exact gB_ok g_mul_ok (fun _ _ _ _ _ _ _ _ _ _ => rfl)
  · cases h; exact gB_ok (g_full_ok (fun a b => a &&& b)) (fun _ _ _ _ _ _ _ _ _ _ => rfl)
  · cases h; exact gB_ok (g_full_ok (fun a b => a ||| b)) (fun _ _ _ _ _ _ _ _ _ _ => rfl)
  · cases h; exact gD_ok
  · cases h; exact gR_ok
  · cases h; exact gC2_ok
  · cases h; exact gS2_ok (op := fun a b => a <<< (b.toInt64 &&& 63)) (fun _ _ _ _ _ _ _ _ _ _ => rfl)
  · cases h; exact gS2_ok (op := fun a b => (a.toUInt64 >>> (b.toInt64.toUInt64 &&& Int64.toUInt64 63)).toInt64) (fun _ _ _ _ _ _ _ _ _ _ => rfl)
  · cases h
