/-! ===== names and words: both packings are of the same letters ===== -/
def n5 : List Nat → Nat
  | [] => 0
  | c :: rs => 32 * n5 rs + (c - 96)
def n27 : List Nat → Nat
  | [] => 0
  | c :: rs => 27 * n27 rs + (c - 96)
theorem lt_b {c : Nat} (h : isLt c = true) : 97 ≤ c ∧ c ≤ 122 := by
  unfold isLt at h
  rw [Bool.and_eq_true] at h
  exact ⟨Nat.le_of_ble_eq_true h.1, Nat.le_of_ble_eq_true h.2⟩
theorem vl_c {c : Nat} {rs : List Nat} (h : vl (c :: rs) = true) : isLt c = true ∧ vl rs = true := by
  have h : (isLt c && vl rs) = true := h
  rw [Bool.and_eq_true] at h
  exact h
theorem i64_of {k : Nat} (h : k < 2147483648) : (Int32.ofNat k).toInt64 = Int64.ofNat k := by
  apply Int64.toInt_inj.mp
  rw [Int32.toInt_toInt64, n_int h, Int64.toInt_ofNat_of_lt (by omega)]
theorem wl_n {x c : Nat} (hx : x < 1099511627776) (hc : 97 ≤ c ∧ c ≤ 122) : wl (Int64.ofNat x) c = Int64.ofNat (32 * x + (c - 96)) := by
  unfold wl
  rw [show ((Int32.ofNat 5).toInt64 &&& 63) = 5 from by decide +kernel, n_sub hc.1, n_add, show c - 97 + 1 = c - 96 by omega, i64_of (by omega)]
  have hd : c - 96 < 2 ^ 5 := by omega
  generalize c - 96 = d at hd
  have e : 32 * x + d = x <<< 5 ||| d := by rw [← Nat.shiftLeft_add_eq_or_of_lt hd, Nat.shiftLeft_eq]; omega
  apply Int64.toBitVec_inj.mp
  apply BitVec.eq_of_toNat_eq
  rw [e]
  simp [Int64.toBitVec_or, Int64.toBitVec_shiftLeft]
  rw [Nat.mod_eq_of_lt (show x < 18446744073709551616 by omega)]
theorem n5_lt : ∀ {rs : List Nat}, vl rs = true → n5 rs < 32 ^ rs.length
  | [], _ => by decide
  | c :: rs, h => by
    obtain ⟨h1, h2⟩ := vl_c h
    have h3 := n5_lt h2
    have h4 := lt_b h1
    show 32 * n5 rs + (c - 96) < 32 ^ (rs.length + 1)
    rw [Nat.pow_succ]
    omega
theorem n27_lt : ∀ {rs : List Nat}, vl rs = true → n27 rs < 27 ^ rs.length
  | [], _ => by decide
  | c :: rs, h => by
    obtain ⟨h1, h2⟩ := vl_c h
    have h3 := n27_lt h2
    have h4 := lt_b h1
    show 27 * n27 rs + (c - 96) < 27 ^ (rs.length + 1)
    rw [Nat.pow_succ]
    omega
theorem p5_n : ∀ {rs : List Nat}, vl rs = true → rs.length ≤ 7 → p5 rs = Int64.ofNat (n5 rs)
  | [], _, _ => rfl
  | c :: rs, h, hl => by
    obtain ⟨h1, h2⟩ := vl_c h
    rw [List.length_cons] at hl
    have h3 := n5_lt h2
    have h4 : 32 ^ rs.length ≤ 32 ^ 6 := Nat.pow_le_pow_right (by decide) (by omega)
    show wl (p5 rs) c = Int64.ofNat (32 * n5 rs + (c - 96))
    rw [p5_n h2 (by omega), wl_n (by omega) (lt_b h1)]
theorem p27_n : ∀ {rs : List Nat}, vl rs = true → p27 rs = Int64.ofNat (n27 rs)
  | [], _ => rfl
  | c :: rs, h => by
    obtain ⟨h1, h2⟩ := vl_c h
    have h4 := lt_b h1
    show mw (p27 rs) c = Int64.ofNat (27 * n27 rs + (c - 96))
    unfold mw
    rw [p27_n h2, i64_of (by omega), show 27 * n27 rs + (c - 96) = 27 * n27 rs + c - 96 by omega, Int64.ofNat_sub _ _ (by omega), Int64.ofNat_add, Int64.ofNat_mul]
theorem n5_inj : ∀ {rs ss : List Nat}, vl rs = true → vl ss = true → n5 rs = n5 ss → rs = ss
  | [], [], _, _, _ => rfl
  | [], d :: ss, _, h2, h => by
    have := lt_b (vl_c h2).1
    have h : 0 = 32 * n5 ss + (d - 96) := h
    omega
  | c :: rs, [], h1, _, h => by
    have := lt_b (vl_c h1).1
    have h : 32 * n5 rs + (c - 96) = 0 := h
    omega
  | c :: rs, d :: ss, h1, h2, h => by
    have a1 := lt_b (vl_c h1).1
    have a2 := lt_b (vl_c h2).1
    have h : 32 * n5 rs + (c - 96) = 32 * n5 ss + (d - 96) := h
    have e1 : c = d := by omega
    have e2 : n5 rs = n5 ss := by omega
    rw [e1, n5_inj (vl_c h1).2 (vl_c h2).2 e2]
theorem n27_inj : ∀ {rs ss : List Nat}, vl rs = true → vl ss = true → n27 rs = n27 ss → rs = ss
  | [], [], _, _, _ => rfl
  | [], d :: ss, _, h2, h => by
    have := lt_b (vl_c h2).1
    have h : 0 = 27 * n27 ss + (d - 96) := h
    omega
  | c :: rs, [], h1, _, h => by
    have := lt_b (vl_c h1).1
    have h : 27 * n27 rs + (c - 96) = 0 := h
    omega
  | c :: rs, d :: ss, h1, h2, h => by
    have a1 := lt_b (vl_c h1).1
    have a2 := lt_b (vl_c h2).1
    have h : 27 * n27 rs + (c - 96) = 27 * n27 ss + (d - 96) := h
    have e1 : c = d := by omega
    have e2 : n27 rs = n27 ss := by omega
    rw [e1, n27_inj (vl_c h1).2 (vl_c h2).2 e2]
theorem p5_inj {rs ss : List Nat} (h1 : vl rs = true) (h2 : vl ss = true) (l1 : rs.length ≤ 7) (l2 : ss.length ≤ 7) (h : p5 rs = p5 ss) : rs = ss := by
  have a1 := n5_lt h1
  have a2 := n5_lt h2
  have b1 : 32 ^ rs.length ≤ 32 ^ 7 := Nat.pow_le_pow_right (by decide) l1
  have b2 : 32 ^ ss.length ≤ 32 ^ 7 := Nat.pow_le_pow_right (by decide) l2
  have e := congrArg Int64.toInt h
  rw [p5_n h1 l1, p5_n h2 l2, Int64.toInt_ofNat_of_lt (by omega), Int64.toInt_ofNat_of_lt (by omega)] at e
  exact n5_inj h1 h2 (by omega)
theorem p27_inj {rs ss : List Nat} (h1 : vl rs = true) (h2 : vl ss = true) (l1 : rs.length ≤ 7) (l2 : ss.length ≤ 7) (h : p27 rs = p27 ss) : rs = ss := by
  have a1 := n27_lt h1
  have a2 := n27_lt h2
  have b1 : 27 ^ rs.length ≤ 27 ^ 7 := Nat.pow_le_pow_right (by decide) l1
  have b2 : 27 ^ ss.length ≤ 27 ^ 7 := Nat.pow_le_pow_right (by decide) l2
  have e := congrArg Int64.toInt h
  rw [p27_n h1, p27_n h2, Int64.toInt_ofNat_of_lt (by omega), Int64.toInt_ofNat_of_lt (by omega)] at e
  exact n27_inj h1 h2 (by omega)
