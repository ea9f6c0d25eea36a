section
/-! ===== names and words: both packings are of the same letters ===== -/
def n5 : List Nat → Nat
  | [] => 0
  | c :: rs => 32 * n5 rs + (c - 96)
def n27 : List Nat → Nat
  | [] => 0
  | c :: rs => 27 * n27 rs + (c - 96)
theorem lt_b {c : Nat} (h : isLt c = true) : 97 ≤ c ∧ c ≤ 122 := by
  unfold isLt at h
  rw [Bool.and_eq_true] at h
  exact ⟨Nat.le_of_ble_eq_true h.1, Nat.le_of_ble_eq_true h.2⟩
theorem vl_c {c : Nat} {rs : List Nat} (h : vl (c :: rs) = true) : isLt c = true ∧ vl rs = true := by
  have h : (isLt c && vl rs) = true := h
  rw [Bool.and_eq_true] at h
  exact h
theorem i64_of {k : Nat} (h : k < 2147483648) : (Int32.ofNat k).toInt64 = Int64.ofNat k := by
  apply Int64.toInt_inj.mp
  rw [Int32.toInt_toInt64, n_int h, Int64.toInt_ofNat_of_lt (by omega)]
theorem wl_n {x c : Nat} (hx : x < 1099511627776) (hc : 97 ≤ c ∧ c ≤ 122) : wl (Int64.ofNat x) c = Int64.ofNat (32 * x + (c - 96)) := by
  unfold wl
  rw [show ((Int32.ofNat 5).toInt64 &&& 63) = 5 from by decide +kernel, n_sub hc.1, n_add, show c - 97 + 1 = c - 96 by omega, i64_of (by omega)]
  have hd : c - 96 < 2 ^ 5 := by omega
  generalize c - 96 = d at hd
  have e : 32 * x + d = x <<< 5 ||| d := by rw [← Nat.shiftLeft_add_eq_or_of_lt hd, Nat.shiftLeft_eq]; omega
  apply Int64.toBitVec_inj.mp
  apply BitVec.eq_of_toNat_eq
  rw [e]
  simp [Int64.toBitVec_or, Int64.toBitVec_shiftLeft]
  rw [Nat.mod_eq_of_lt (show x < 18446744073709551616 by omega)]
theorem n5_lt : ∀ {rs : List Nat}, vl rs = true → n5 rs < 32 ^ rs.length
  | [], _ => by decide
  | c :: rs, h => by
    obtain ⟨h1, h2⟩ := vl_c h
    have h3 := n5_lt h2
    have h4 := lt_b h1
    show 32 * n5 rs + (c - 96) < 32 ^ (rs.length + 1)
    rw [Nat.pow_succ]
    omega
theorem n27_lt : ∀ {rs : List Nat}, vl rs = true → n27 rs < 27 ^ rs.length
  | [], _ => by decide
  | c :: rs, h => by
    obtain ⟨h1, h2⟩ := vl_c h
    have h3 := n27_lt h2
    have h4 := lt_b h1
    show 27 * n27 rs + (c - 96) < 27 ^ (rs.length + 1)
    rw [Nat.pow_succ]
    omega
theorem p5_n : ∀ {rs : List Nat}, vl rs = true → rs.length ≤ 7 → p5 rs = Int64.ofNat (n5 rs)
  | [], _, _ => rfl
  | c :: rs, h, hl => by
    obtain ⟨h1, h2⟩ := vl_c h
    rw [List.length_cons] at hl
    have h3 := n5_lt h2
    have h4 : 32 ^ rs.length ≤ 32 ^ 6 := Nat.pow_le_pow_right (by decide) (by omega)
    show wl (p5 rs) c = Int64.ofNat (32 * n5 rs + (c - 96))
    rw [p5_n h2 (by omega), wl_n (by omega) (lt_b h1)]
theorem p27_n : ∀ {rs : List Nat}, vl rs = true → p27 rs = Int64.ofNat (n27 rs)
  | [], _ => rfl
  | c :: rs, h => by
    obtain ⟨h1, h2⟩ := vl_c h
    have h4 := lt_b h1
    show mw (p27 rs) c = Int64.ofNat (27 * n27 rs + (c - 96))
    unfold mw
    rw [p27_n h2, i64_of (by omega), show 27 * n27 rs + (c - 96) = 27 * n27 rs + c - 96 by omega, Int64.ofNat_sub _ _ (by omega), Int64.ofNat_add, Int64.ofNat_mul]
theorem n5_inj : ∀ {rs ss : List Nat}, vl rs = true → vl ss = true → n5 rs = n5 ss → rs = ss
  | [], [], _, _, _ => rfl
  | [], d :: ss, _, h2, h => by
    have := lt_b (vl_c h2).1
    have h : 0 = 32 * n5 ss + (d - 96) := h
    omega
  | c :: rs, [], h1, _, h => by
    have := lt_b (vl_c h1).1
    have h : 32 * n5 rs + (c - 96) = 0 := h
    omega
  | c :: rs, d :: ss, h1, h2, h => by
    have a1 := lt_b (vl_c h1).1
    have a2 := lt_b (vl_c h2).1
    have h : 32 * n5 rs + (c - 96) = 32 * n5 ss + (d - 96) := h
    have e1 : c = d := by omega
    have e2 : n5 rs = n5 ss := by omega
    rw [e1, n5_inj (vl_c h1).2 (vl_c h2).2 e2]
theorem n27_inj : ∀ {rs ss : List Nat}, vl rs = true → vl ss = true → n27 rs = n27 ss → rs = ss
  | [], [], _, _, _ => rfl
  | [], d :: ss, _, h2, h => by
    have := lt_b (vl_c h2).1
    have h : 0 = 27 * n27 ss + (d - 96) := h
    omega
  | c :: rs, [], h1, _, h => by
    have := lt_b (vl_c h1).1
    have h : 27 * n27 rs + (c - 96) = 0 := h
    omega
  | c :: rs, d :: ss, h1, h2, h => by
    have a1 := lt_b (vl_c h1).1
    have a2 := lt_b (vl_c h2).1
    have h : 27 * n27 rs + (c - 96) = 27 * n27 ss + (d - 96) := h
    have e1 : c = d := by omega
    have e2 : n27 rs = n27 ss := by omega
    rw [e1, n27_inj (vl_c h1).2 (vl_c h2).2 e2]
theorem p5_inj {rs ss : List Nat} (h1 : vl rs = true) (h2 : vl ss = true) (l1 : rs.length ≤ 7) (l2 : ss.length ≤ 7) (h : p5 rs = p5 ss) : rs = ss := by
  have a1 := n5_lt h1
  have a2 := n5_lt h2
  have b1 : 32 ^ rs.length ≤ 32 ^ 7 := Nat.pow_le_pow_right (by decide) l1
  have b2 : 32 ^ ss.length ≤ 32 ^ 7 := Nat.pow_le_pow_right (by decide) l2
  have e := congrArg Int64.toInt h
  rw [p5_n h1 l1, p5_n h2 l2, Int64.toInt_ofNat_of_lt (by omega), Int64.toInt_ofNat_of_lt (by omega)] at e
  exact n5_inj h1 h2 (by omega)
theorem p27_inj {rs ss : List Nat} (h1 : vl rs = true) (h2 : vl ss = true) (l1 : rs.length ≤ 7) (l2 : ss.length ≤ 7) (h : p27 rs = p27 ss) : rs = ss := by
  have a1 := n27_lt h1
  have a2 := n27_lt h2
  have b1 : 27 ^ rs.length ≤ 27 ^ 7 := Nat.pow_le_pow_right (by decide) l1
  have b2 : 27 ^ ss.length ≤ 27 ^ 7 := Nat.pow_le_pow_right (by decide) l2
  have e := congrArg Int64.toInt h
  rw [p27_n h1, p27_n h2, Int64.toInt_ofNat_of_lt (by omega), Int64.toInt_ofNat_of_lt (by omega)] at e
  exact n27_inj h1 h2 (by omega)
end
section
/-- the class's number of each of the reference's words -/
def WX : List Nat := [2, 4, 5, 6, 7, 8, 9, 10, 11, 12, 13, 14, 15, 17, 18, 19, 16, 20, 21, 22, 23, 3, 24, 25, 26, 27, 28, 29, 30, 31]
theorem wt_ok : ∀ k, k < 30 → vl (WT.getD k []) = true ∧ (WT.getD k []).length ≤ 7 ∧ ev_lt.getD (WX.getD k 0) 0 = p5 (WT.getD k []) ∧ wix (p5 (WT.getD k [])) 32 0 = WX.getD k 0 ∧ 2 ≤ WX.getD k 0 := by decide +kernel
theorem wx_all : ∀ i, i < 32 → 2 ≤ i → ∃ k, k < 30 ∧ WX.getD k 0 = i := by decide +kernel
theorem wix_of (le : Int64) : ∀ (r i : Nat), i + r = 32 → (wix le r i = 1 ∧ (le = 0 ∨ ∀ j, i ≤ j → j < 32 → ev_lt.getD j 0 ≠ le)) ∨ (le ≠ 0 ∧ ev_lt.getD (wix le r i) 0 = le ∧ wix le r i < 32)
  | 0, i, h => Or.inl ⟨rfl, Or.inr (fun j h1 h2 => by omega)⟩
  | r + 1, i, h => by
    by_cases h0 : le = 0
    · rw [show wix le (r + 1) i = wix le r (i + 1) from if_pos h0]
      rcases wix_of le r (i + 1) (by omega) with e | e
      · exact Or.inl ⟨e.1, Or.inl h0⟩
      · exact absurd h0 e.1
    · by_cases h1 : ev_lt.getD i 0 = le
      · rw [show wix le (r + 1) i = i from by show (if le = 0 then _ else _) = _; rw [if_neg h0, if_pos h1]]
        exact Or.inr ⟨h0, h1, by omega⟩
      · rw [show wix le (r + 1) i = wix le r (i + 1) from by show (if le = 0 then _ else _) = _; rw [if_neg h0, if_neg h1]]
        rcases wix_of le r (i + 1) (by omega) with e | e
        · refine Or.inl ⟨e.1, e.2.imp id (fun e j h2 h3 => ?_)⟩
          by_cases hj : j = i
          · rw [hj]; exact h1
          · exact e j (by omega) h3
        · exact Or.inr e
theorem nmB_of (wd : Int64) : ∀ (r k : Nat), nmB wd r k = true ↔ ∀ j, k ≤ j → j < k + r → wd ≠ wo j
  | 0, k => ⟨fun _ j h1 h2 => by omega, fun _ => rfl⟩
  | r + 1, k => by
    have ih := nmB_of wd r (k + 1)
    by_cases h : wd = wo k
    · rw [show nmB wd (r + 1) k = false from if_pos h]
      exact ⟨fun e => (by cases e), fun e => absurd h (e k (Nat.le_refl k) (by omega))⟩
    · rw [show nmB wd (r + 1) k = nmB wd r (k + 1) from if_neg h, ih]
      refine ⟨fun e j h1 h2 => ?_, fun e j h1 h2 => e j (by omega) (by omega)⟩
      by_cases hj : j = k
      · rw [hj]; exact h
      · exact e j (by omega) (by omega)
theorem p5_ne {rs : List Nat} (h : vl rs = true) (h1 : 1 ≤ rs.length) (h7 : rs.length ≤ 7) : p5 rs ≠ 0 := fun e => by
  have := p5_inj (ss := []) h rfl h7 (by decide) e
  rw [this] at h1
  exact absurd h1 (by decide)
/-- the reference finds its word k just where the class has that word -/
theorem word_iff {rs : List Nat} (h : vl rs = true) (h7 : rs.length ≤ 7) {k : Nat} (hk : k < 30) : p27 rs = wo k ↔ wix (p5 rs) 32 0 = WX.getD k 0 := by
  obtain ⟨w1, w2, w3, w4, w5⟩ := wt_ok k hk
  constructor
  · intro e
    have e2 := p27_inj h w1 h7 w2 e
    rw [e2]; exact w4
  · intro e
    rcases wix_of (p5 rs) 32 0 rfl with e2 | e2
    · rw [e2.1] at e; omega
    · rw [e, w3] at e2
      have e3 := p5_inj w1 h w2 h7 e2.2.1
      show p27 rs = p27 (WT.getD k [])
      rw [e3]
theorem name_iff {rs : List Nat} (h : vl rs = true) (h1 : 1 ≤ rs.length) (h7 : rs.length ≤ 7) : nmB (p27 rs) 30 0 = true ↔ wix (p5 rs) 32 0 = 1 := by
  have hlt := wix_lt (p5 rs) 32 0 rfl
  rw [nmB_of]
  constructor
  · intro e
    rcases wix_of (p5 rs) 32 0 rfl with e2 | e2
    · exact e2.1
    · exfalso
      by_cases hi : 2 ≤ wix (p5 rs) 32 0
      · obtain ⟨k, k1, k2⟩ := wx_all _ hlt hi
        exact e k (Nat.zero_le k) (by omega) ((word_iff h h7 k1).mpr k2.symm)
      · have h01 : wix (p5 rs) 32 0 = 0 ∨ wix (p5 rs) 32 0 = 1 := by omega
        rcases h01 with h01 | h01 <;> (rw [h01] at e2; exact e2.1 (e2.2.1.symm.trans (by decide +kernel)))
  · intro e k _ hk e3
    have e4 := (word_iff h h7 (k := k) (by omega)).mp e3
    have := (wt_ok k (by omega)).2.2.2.2
    omega
end
section
/-! ===== rules that keep the stack in sight ===== -/
section
variable {dd mi pc x y : Nat} {L : List (Nat × Value)} {st : List Value} {hp : List AE} {q : ev_R}
theorem bcT_eq {off : Int} {a : Int32} (hf : mF MM mi pc = some (.ifCond .eq off, x, y)) (hP : a = 0) (h : RT MM dd mi (x) L st hp q) : RT MM dd mi pc L (.int a :: st) hp q := RT_step hf (fun cf K => by show K (if a = 0 then x else pc + 3) L st hp 0 0 = _; rw [if_pos hP]) h
theorem bcF_eq {off : Int} {a : Int32} (hf : mF MM mi pc = some (.ifCond .eq off, x, y)) (hP : ¬ (a = 0)) (h : RT MM dd mi (pc + 3) L st hp q) : RT MM dd mi pc L (.int a :: st) hp q := RT_step hf (fun cf K => by show K (if a = 0 then x else pc + 3) L st hp 0 0 = _; rw [if_neg hP]) h
theorem bcT_ne {off : Int} {a : Int32} (hf : mF MM mi pc = some (.ifCond .ne off, x, y)) (hP : a = 0) (h : RT MM dd mi (pc + 3) L st hp q) : RT MM dd mi pc L (.int a :: st) hp q := RT_step hf (fun cf K => by show K (if a = 0 then pc + 3 else x) L st hp 0 0 = _; rw [if_pos hP]) h
theorem bcF_ne {off : Int} {a : Int32} (hf : mF MM mi pc = some (.ifCond .ne off, x, y)) (hP : ¬ (a = 0)) (h : RT MM dd mi (x) L st hp q) : RT MM dd mi pc L (.int a :: st) hp q := RT_step hf (fun cf K => by show K (if a = 0 then pc + 3 else x) L st hp 0 0 = _; rw [if_neg hP]) h
theorem bcT_lt {off : Int} {a : Int32} (hf : mF MM mi pc = some (.ifCond .lt off, x, y)) (hP : a < 0) (h : RT MM dd mi (x) L st hp q) : RT MM dd mi pc L (.int a :: st) hp q := RT_step hf (fun cf K => by show K (if a < 0 then x else pc + 3) L st hp 0 0 = _; rw [if_pos hP]) h
theorem bcF_lt {off : Int} {a : Int32} (hf : mF MM mi pc = some (.ifCond .lt off, x, y)) (hP : ¬ (a < 0)) (h : RT MM dd mi (pc + 3) L st hp q) : RT MM dd mi pc L (.int a :: st) hp q := RT_step hf (fun cf K => by show K (if a < 0 then x else pc + 3) L st hp 0 0 = _; rw [if_neg hP]) h
theorem bcT_ge {off : Int} {a : Int32} (hf : mF MM mi pc = some (.ifCond .ge off, x, y)) (hP : 0 ≤ a) (h : RT MM dd mi (x) L st hp q) : RT MM dd mi pc L (.int a :: st) hp q := RT_step hf (fun cf K => by show K (if 0 ≤ a then x else pc + 3) L st hp 0 0 = _; rw [if_pos hP]) h
theorem bcF_ge {off : Int} {a : Int32} (hf : mF MM mi pc = some (.ifCond .ge off, x, y)) (hP : ¬ (0 ≤ a)) (h : RT MM dd mi (pc + 3) L st hp q) : RT MM dd mi pc L (.int a :: st) hp q := RT_step hf (fun cf K => by show K (if 0 ≤ a then x else pc + 3) L st hp 0 0 = _; rw [if_neg hP]) h
theorem bcT_gt {off : Int} {a : Int32} (hf : mF MM mi pc = some (.ifCond .gt off, x, y)) (hP : 0 < a) (h : RT MM dd mi (x) L st hp q) : RT MM dd mi pc L (.int a :: st) hp q := RT_step hf (fun cf K => by show K (if 0 < a then x else pc + 3) L st hp 0 0 = _; rw [if_pos hP]) h
theorem bcF_gt {off : Int} {a : Int32} (hf : mF MM mi pc = some (.ifCond .gt off, x, y)) (hP : ¬ (0 < a)) (h : RT MM dd mi (pc + 3) L st hp q) : RT MM dd mi pc L (.int a :: st) hp q := RT_step hf (fun cf K => by show K (if 0 < a then x else pc + 3) L st hp 0 0 = _; rw [if_neg hP]) h
theorem bcT_le {off : Int} {a : Int32} (hf : mF MM mi pc = some (.ifCond .le off, x, y)) (hP : a ≤ 0) (h : RT MM dd mi (x) L st hp q) : RT MM dd mi pc L (.int a :: st) hp q := RT_step hf (fun cf K => by show K (if a ≤ 0 then x else pc + 3) L st hp 0 0 = _; rw [if_pos hP]) h
theorem bcF_le {off : Int} {a : Int32} (hf : mF MM mi pc = some (.ifCond .le off, x, y)) (hP : ¬ (a ≤ 0)) (h : RT MM dd mi (pc + 3) L st hp q) : RT MM dd mi pc L (.int a :: st) hp q := RT_step hf (fun cf K => by show K (if a ≤ 0 then x else pc + 3) L st hp 0 0 = _; rw [if_neg hP]) h
theorem biT_eq {off : Int} {a b : Int32} (hf : mF MM mi pc = some (.if_icmp .eq off, x, y)) (hP : a = b) (h : RT MM dd mi (x) L st hp q) : RT MM dd mi pc L (.int b :: .int a :: st) hp q := RT_step hf (fun cf K => by show K (if a = b then x else pc + 3) L st hp 0 0 = _; rw [if_pos hP]) h
theorem biF_eq {off : Int} {a b : Int32} (hf : mF MM mi pc = some (.if_icmp .eq off, x, y)) (hP : ¬ (a = b)) (h : RT MM dd mi (pc + 3) L st hp q) : RT MM dd mi pc L (.int b :: .int a :: st) hp q := RT_step hf (fun cf K => by show K (if a = b then x else pc + 3) L st hp 0 0 = _; rw [if_neg hP]) h
theorem biT_ne {off : Int} {a b : Int32} (hf : mF MM mi pc = some (.if_icmp .ne off, x, y)) (hP : a = b) (h : RT MM dd mi (pc + 3) L st hp q) : RT MM dd mi pc L (.int b :: .int a :: st) hp q := RT_step hf (fun cf K => by show K (if a = b then pc + 3 else x) L st hp 0 0 = _; rw [if_pos hP]) h
theorem biF_ne {off : Int} {a b : Int32} (hf : mF MM mi pc = some (.if_icmp .ne off, x, y)) (hP : ¬ (a = b)) (h : RT MM dd mi (x) L st hp q) : RT MM dd mi pc L (.int b :: .int a :: st) hp q := RT_step hf (fun cf K => by show K (if a = b then pc + 3 else x) L st hp 0 0 = _; rw [if_neg hP]) h
theorem biT_lt {off : Int} {a b : Int32} (hf : mF MM mi pc = some (.if_icmp .lt off, x, y)) (hP : a < b) (h : RT MM dd mi (x) L st hp q) : RT MM dd mi pc L (.int b :: .int a :: st) hp q := RT_step hf (fun cf K => by show K (if a < b then x else pc + 3) L st hp 0 0 = _; rw [if_pos hP]) h
theorem biF_lt {off : Int} {a b : Int32} (hf : mF MM mi pc = some (.if_icmp .lt off, x, y)) (hP : ¬ (a < b)) (h : RT MM dd mi (pc + 3) L st hp q) : RT MM dd mi pc L (.int b :: .int a :: st) hp q := RT_step hf (fun cf K => by show K (if a < b then x else pc + 3) L st hp 0 0 = _; rw [if_neg hP]) h
theorem biT_ge {off : Int} {a b : Int32} (hf : mF MM mi pc = some (.if_icmp .ge off, x, y)) (hP : b ≤ a) (h : RT MM dd mi (x) L st hp q) : RT MM dd mi pc L (.int b :: .int a :: st) hp q := RT_step hf (fun cf K => by show K (if b ≤ a then x else pc + 3) L st hp 0 0 = _; rw [if_pos hP]) h
theorem biF_ge {off : Int} {a b : Int32} (hf : mF MM mi pc = some (.if_icmp .ge off, x, y)) (hP : ¬ (b ≤ a)) (h : RT MM dd mi (pc + 3) L st hp q) : RT MM dd mi pc L (.int b :: .int a :: st) hp q := RT_step hf (fun cf K => by show K (if b ≤ a then x else pc + 3) L st hp 0 0 = _; rw [if_neg hP]) h
theorem biT_gt {off : Int} {a b : Int32} (hf : mF MM mi pc = some (.if_icmp .gt off, x, y)) (hP : b < a) (h : RT MM dd mi (x) L st hp q) : RT MM dd mi pc L (.int b :: .int a :: st) hp q := RT_step hf (fun cf K => by show K (if b < a then x else pc + 3) L st hp 0 0 = _; rw [if_pos hP]) h
theorem biF_gt {off : Int} {a b : Int32} (hf : mF MM mi pc = some (.if_icmp .gt off, x, y)) (hP : ¬ (b < a)) (h : RT MM dd mi (pc + 3) L st hp q) : RT MM dd mi pc L (.int b :: .int a :: st) hp q := RT_step hf (fun cf K => by show K (if b < a then x else pc + 3) L st hp 0 0 = _; rw [if_neg hP]) h
theorem biT_le {off : Int} {a b : Int32} (hf : mF MM mi pc = some (.if_icmp .le off, x, y)) (hP : a ≤ b) (h : RT MM dd mi (x) L st hp q) : RT MM dd mi pc L (.int b :: .int a :: st) hp q := RT_step hf (fun cf K => by show K (if a ≤ b then x else pc + 3) L st hp 0 0 = _; rw [if_pos hP]) h
theorem biF_le {off : Int} {a b : Int32} (hf : mF MM mi pc = some (.if_icmp .le off, x, y)) (hP : ¬ (a ≤ b)) (h : RT MM dd mi (pc + 3) L st hp q) : RT MM dd mi pc L (.int b :: .int a :: st) hp q := RT_step hf (fun cf K => by show K (if a ≤ b then x else pc + 3) L st hp 0 0 = _; rw [if_neg hP]) h
theorem ba_iadd {a b : Int32} (hf : mF MM mi pc = some (.iadd, x, y)) (h : RT MM dd mi (pc + 1) L (.int (a + b) :: st) hp q) : RT MM dd mi pc L (.int b :: .int a :: st) hp q := RT_step hf (fun _ _ => rfl) h
theorem ba_isub {a b : Int32} (hf : mF MM mi pc = some (.isub, x, y)) (h : RT MM dd mi (pc + 1) L (.int (a - b) :: st) hp q) : RT MM dd mi pc L (.int b :: .int a :: st) hp q := RT_step hf (fun _ _ => rfl) h
theorem ba_imul {a b : Int32} (hf : mF MM mi pc = some (.imul, x, y)) (h : RT MM dd mi (pc + 1) L (.int (a * b) :: st) hp q) : RT MM dd mi pc L (.int b :: .int a :: st) hp q := RT_step hf (fun _ _ => rfl) h
theorem ba_iand {a b : Int32} (hf : mF MM mi pc = some (.iand, x, y)) (h : RT MM dd mi (pc + 1) L (.int (a &&& b) :: st) hp q) : RT MM dd mi pc L (.int b :: .int a :: st) hp q := RT_step hf (fun _ _ => rfl) h
theorem ba_ior {a b : Int32} (hf : mF MM mi pc = some (.ior, x, y)) (h : RT MM dd mi (pc + 1) L (.int (a ||| b) :: st) hp q) : RT MM dd mi pc L (.int b :: .int a :: st) hp q := RT_step hf (fun _ _ => rfl) h
theorem ba_ixor {a b : Int32} (hf : mF MM mi pc = some (.ixor, x, y)) (h : RT MM dd mi (pc + 1) L (.int (a ^^^ b) :: st) hp q) : RT MM dd mi pc L (.int b :: .int a :: st) hp q := RT_step hf (fun _ _ => rfl) h
theorem ba_ishl {a b : Int32} (hf : mF MM mi pc = some (.ishl, x, y)) (h : RT MM dd mi (pc + 1) L (.int (a <<< (b &&& 31)) :: st) hp q) : RT MM dd mi pc L (.int b :: .int a :: st) hp q := RT_step hf (fun _ _ => rfl) h
theorem ba_ishr {a b : Int32} (hf : mF MM mi pc = some (.ishr, x, y)) (h : RT MM dd mi (pc + 1) L (.int (a >>> (b &&& 31)) :: st) hp q) : RT MM dd mi pc L (.int b :: .int a :: st) hp q := RT_step hf (fun _ _ => rfl) h
theorem ba_iushr {a b : Int32} (hf : mF MM mi pc = some (.iushr, x, y)) (h : RT MM dd mi (pc + 1) L (.int ((a.toUInt32 >>> (b.toUInt32 &&& Int32.toUInt32 31)).toInt32) :: st) hp q) : RT MM dd mi pc L (.int b :: .int a :: st) hp q := RT_step hf (fun _ _ => rfl) h
theorem ba_lcmp {a b : Int64} (hf : mF MM mi pc = some (.lcmp, x, y)) (h : RT MM dd mi (pc + 1) L (.int (lg_cmp a b) :: st) hp q) : RT MM dd mi pc L (.long b :: .long a :: st) hp q := RT_step hf (fun _ _ => rfl) h
end
section
variable {dd mi pc x y : Nat} {L : List (Nat × Value)} {st : List Value} {hp : List AE} {l l2 : List (Nat × AE)} {q : ev_R}
theorem ow_iv0 {idx a : Nat} {fs : List Value} {As rest : List Value} {r : List (Nat × AE)} (hf : mF MM mi pc = some (.invokevirtual idx, x, y)) (hx : Nat.blt x 900 = true) (hp0 : ev_pop y st = some (As, .ref a :: rest)) (hk : olk l a = some (.inr (mK MM x, fs))) (ha : Nat.ble 204 hp.length = true) (hb : Nat.blt a 204 = true) (hz : (Nat.beq (mC MM x) 0 && Nat.beq (mS MM x) 0) = true) (hc8 : Nat.ble ((rest.map fun v => v.category).sum) 8 = true) (hc : FR dd x (.ref a :: As) (ov hp l) (none, ov (ov hp l) r)) (hl : oil l r = l2) (h : RT MM dd mi (pc + 3) L rest (ov hp l2) q) : RT MM dd mi pc L st (ov hp l) q := ow_iv hf hx hp0 hk ha hb hz hc8 hc hl h
theorem ow_is0 {idx : Nat} {As rest : List Value} {r : List (Nat × AE)} (hf : mF MM mi pc = some (.invokestatic idx, x, y)) (hx : Nat.blt x 900 = true) (hp0 : ev_pop y st = some (As, rest)) (hz : (Nat.beq (mC MM x) 0 && Nat.beq (mS MM x) 0) = true) (hc8 : Nat.ble ((rest.map fun v => v.category).sum) 8 = true) (hc : FR dd x As (ov hp l) (none, ov (ov hp l) r)) (hl : oil l r = l2) (h : RT MM dd mi (pc + 3) L rest (ov hp l2) q) : RT MM dd mi pc L st (ov hp l) q := ow_is hf hx hp0 hz hc8 hc hl h
theorem ow_iv1 {w : Value} {idx a : Nat} {fs : List Value} {As rest : List Value} {r : List (Nat × AE)} (hf : mF MM mi pc = some (.invokevirtual idx, x, y)) (hx : Nat.blt x 900 = true) (hp0 : ev_pop y st = some (As, .ref a :: rest)) (hk : olk l a = some (.inr (mK MM x, fs))) (ha : Nat.ble 204 hp.length = true) (hb : Nat.blt a 204 = true) (hz : (Nat.beq (mC MM x) 0 && Nat.beq (mS MM x) 0) = true) (hc8 : Nat.ble ((rest.map fun v => v.category).sum) 8 = true) (hc : FR dd x (.ref a :: As) (ov hp l) (some w, ov (ov hp l) r)) (hl : oil l r = l2) (h : RT MM dd mi (pc + 3) L (w :: rest) (ov hp l2) q) : RT MM dd mi pc L st (ov hp l) q := ow_iv hf hx hp0 hk ha hb hz hc8 hc hl h
theorem ow_is1 {w : Value} {idx : Nat} {As rest : List Value} {r : List (Nat × AE)} (hf : mF MM mi pc = some (.invokestatic idx, x, y)) (hx : Nat.blt x 900 = true) (hp0 : ev_pop y st = some (As, rest)) (hz : (Nat.beq (mC MM x) 0 && Nat.beq (mS MM x) 0) = true) (hc8 : Nat.ble ((rest.map fun v => v.category).sum) 8 = true) (hc : FR dd x As (ov hp l) (some w, ov (ov hp l) r)) (hl : oil l r = l2) (h : RT MM dd mi (pc + 3) L (w :: rest) (ov hp l2) q) : RT MM dd mi pc L st (ov hp l) q := ow_is hf hx hp0 hz hc8 hc hl h
end
end
section
/-! ===== rules for lengths, switches, quotients, places as numbers ===== -/
section
variable {dd mi pc x y : Nat} {L : List (Nat × Value)} {st : List Value} {hp : List AE} {l l2 : List (Nat × AE)} {q : ev_R}
theorem ow_aln {a : Nat} {arr : List Int64} (hf : mF MM mi pc = some (.arraylength, x, y)) (hk : olk l a = some (.inl (2, .inr (.inl arr)))) (ha : Nat.ble 204 hp.length = true) (hb : Nat.blt a 204 = true) (h : RT MM dd mi (pc + 1) L (.int (Int32.ofNat arr.length) :: st) (ov hp l) q) : RT MM dd mi pc L (.ref a :: st) (ov hp l) q := by
  have e := ov_at hk (Nat.lt_of_lt_of_le (Nat.le_of_ble_eq_true hb) (Nat.le_of_ble_eq_true ha))
  have e2 : ev_an (ov hp l) a = some (2, arr.length) := by unfold ev_an; rw [e]
  refine RT_step hf (fun cf K => ?_) h
  show (ev_an (ov hp l) a).bind (fun z => if z.1 < 7 then K (pc + 1) L (.int (Int32.ofNat z.2) :: st) (ov hp l) 0 0 else none) = _
  rw [e2]
  rfl
theorem rt_ord {idx v : Nat} (hf : mF MM mi pc = some (.invokevirtual idx, 900, y)) (hv : v < 32) (hc8 : Nat.ble ((st.map fun v => v.category).sum) 8 = true) (h : RT MM dd mi (pc + 3) L (.int (Int32.ofNat v) :: st) hp q) : RT MM dd mi pc L (.retAddr v :: st) hp q :=
  RT_step hf (fun cf K => by
    show (if (900 : Nat) = 900 ∧ v < 32 ∧ 0 ≤ mC MM mi ∧ 0 ≤ mS MM mi then (if (st.map fun v => v.category).sum ≤ 8 then K (pc + 3) L (.int (Int32.ofNat v) :: st) hp 0 0 else none) else _) = _
    rw [if_pos ⟨rfl, hv, Nat.zero_le _, Nat.zero_le _⟩, if_pos (Nat.le_of_ble_eq_true hc8)]) h
theorem rt_isw {i v : Int32} (hf : mF MM mi pc = some (.iaload, x, y)) (hi : ev_rd ev_sw i = some v) (h : RT MM dd mi (pc + 1) L (.int v :: st) hp q) : RT MM dd mi pc L (.int i :: .retAddr 100 :: st) hp q :=
  RT_step hf (fun cf K => by
    show (if (100 : Nat) = 100 then (ev_rd ev_sw i).bind (fun v => K (pc + 1) L (.int v :: st) hp 0 0) else none) = _
    rw [if_pos rfl, hi]
    rfl) h
theorem rt_tsD {d lo hi : Int} {offs : Array Int} {v : Int32} {t : Nat} (hf : mF MM mi pc = some (.tableswitch d lo hi offs, x, y)) (hv : v.toInt < lo ∨ hi < v.toInt) (ht : ev_tg pc d = some t) (h : RT MM dd mi t L st hp q) : RT MM dd mi pc L (.int v :: st) hp q :=
  RT_step hf (fun cf K => by
    show (if v.toInt < lo ∨ hi < v.toInt then (ev_tg pc d).bind (fun t => K t L st hp 0 0) else _) = _
    rw [if_pos hv, ht]
    rfl) h
theorem rt_div {a b c : Int32} (hf : mF MM mi pc = some (.idiv, x, y)) (hb : ¬ b = 0) (hc : a / b = c) (h : RT MM dd mi (pc + 1) L (.int c :: st) hp q) : RT MM dd mi pc L (.int b :: .int a :: st) hp q :=
  RT_step hf (fun cf K => by
    show (if b = 0 then none else K (pc + 1) L (.int (a / b) :: st) hp 0 0) = _
    rw [if_neg hb, hc]) h
theorem rt_rem {a b c : Int32} (hf : mF MM mi pc = some (.irem, x, y)) (hb : ¬ b = 0) (hc : a - a / b * b = c) (h : RT MM dd mi (pc + 1) L (.int c :: st) hp q) : RT MM dd mi pc L (.int b :: .int a :: st) hp q :=
  RT_step hf (fun cf K => by
    show (if b = 0 then none else K (pc + 1) L (.int (a - a / b * b) :: st) hp 0 0) = _
    rw [if_neg hb, hc]) h
theorem rt_mulE {a b c : Int32} (hf : mF MM mi pc = some (.imul, x, y)) (hc : a * b = c) (h : RT MM dd mi (pc + 1) L (.int c :: st) hp q) : RT MM dd mi pc L (.int b :: .int a :: st) hp q := RT_step hf (fun _ _ => by subst hc; rfl) h
theorem rt_addE {a b c : Int32} (hf : mF MM mi pc = some (.iadd, x, y)) (hc : a + b = c) (h : RT MM dd mi (pc + 1) L (.int c :: st) hp q) : RT MM dd mi pc L (.int b :: .int a :: st) hp q := RT_step hf (fun _ _ => by subst hc; rfl) h
theorem rt_iorE {a b c : Int32} (hf : mF MM mi pc = some (.ior, x, y)) (hc : a ||| b = c) (h : RT MM dd mi (pc + 1) L (.int c :: st) hp q) : RT MM dd mi pc L (.int b :: .int a :: st) hp q := RT_step hf (fun _ _ => by subst hc; rfl) h
theorem rt_iandE {a b c : Int32} (hf : mF MM mi pc = some (.iand, x, y)) (hc : a &&& b = c) (h : RT MM dd mi (pc + 1) L (.int c :: st) hp q) : RT MM dd mi pc L (.int b :: .int a :: st) hp q := RT_step hf (fun _ _ => by subst hc; rfl) h
theorem ow_ialN {a i : Nat} {arr : List Int32} {v : Int32} (hf : mF MM mi pc = some (.iaload, x, y)) (hk : olk l a = some (.inl (1, .inl arr))) (hi : arr[i]? = some v) (hb2 : i < 2147483648) (ha : Nat.ble 204 hp.length = true) (hb : Nat.blt a 204 = true) (h : RT MM dd mi (pc + 1) L (.int v :: st) (ov hp l) q) : RT MM dd mi pc L (.int (Int32.ofNat i) :: .ref a :: st) (ov hp l) q := ow_ial hf hk (rd_nat hi hb2) ha hb h
theorem ow_lalN {a i : Nat} {arr : List Int64} {v : Int64} (hf : mF MM mi pc = some (.laload, x, y)) (hk : olk l a = some (.inl (2, .inr (.inl arr)))) (hi : arr[i]? = some v) (hb2 : i < 2147483648) (ha : Nat.ble 204 hp.length = true) (hb : Nat.blt a 204 = true) (h : RT MM dd mi (pc + 1) L (.long v :: st) (ov hp l) q) : RT MM dd mi pc L (.int (Int32.ofNat i) :: .ref a :: st) (ov hp l) q := ow_lal hf hk (rd_nat hi hb2) ha hb h
theorem ow_balN {a t i : Nat} {arr : List Int32} {v : Int32} (hf : mF MM mi pc = some (.baload, x, y)) (hk : olk l a = some (.inl (t, .inl arr))) (ht : t = 0 ∨ t = 3) (hi : arr[i]? = some v) (hb2 : i < 2147483648) (ha : Nat.ble 204 hp.length = true) (hb : Nat.blt a 204 = true) (h : RT MM dd mi (pc + 1) L (.int v :: st) (ov hp l) q) : RT MM dd mi pc L (.int (Int32.ofNat i) :: .ref a :: st) (ov hp l) q := ow_bal hf hk ht (rd_nat hi hb2) ha hb h
theorem gd_i {α : Type} {arr : List α} {i : Nat} (h : i < arr.length) : arr[i]? = some (arr[i]) := List.getElem?_eq_getElem h
theorem ow_iasN {a i : Nat} {arr : List Int32} {v : Int32} (hf : mF MM mi pc = some (.iastore, x, y)) (hk : olk l a = some (.inl (1, .inl arr))) (hi : i < arr.length) (hb2 : i < 2147483648) (ha : Nat.ble 204 hp.length = true) (hb : Nat.blt a 204 = true) (hl : oin l a (.inl (1, .inl (arr.set i v))) = l2) (h : RT MM dd mi (pc + 1) L st (ov hp l2) q) : RT MM dd mi pc L (.int v :: .int (Int32.ofNat i) :: .ref a :: st) (ov hp l) q :=
  ow_ias hf hk (rd_nat (gd_i hi) hb2) ha hb (by rw [show (Int32.ofNat i).toNatClampNeg = i from nI_c hb2]; exact hl) h
theorem ow_lasN {a i : Nat} {arr : List Int64} {v : Int64} (hf : mF MM mi pc = some (.lastore, x, y)) (hk : olk l a = some (.inl (2, .inr (.inl arr)))) (hi : i < arr.length) (hb2 : i < 2147483648) (ha : Nat.ble 204 hp.length = true) (hb : Nat.blt a 204 = true) (hl : oin l a (.inl (2, .inr (.inl (arr.set i v)))) = l2) (h : RT MM dd mi (pc + 1) L st (ov hp l2) q) : RT MM dd mi pc L (.long v :: .int (Int32.ofNat i) :: .ref a :: st) (ov hp l) q :=
  ow_las hf hk (rd_nat (gd_i hi) hb2) ha hb (by rw [show (Int32.ofNat i).toNatClampNeg = i from nI_c hb2]; exact hl) h
theorem ow_zasN {a i : Nat} {arr : List Int32} {v : Int32} (hf : mF MM mi pc = some (.bastore, x, y)) (hk : olk l a = some (.inl (3, .inl arr))) (hi : i < arr.length) (hb2 : i < 2147483648) (hv : v = 0 ∨ v = 1) (ha : Nat.ble 204 hp.length = true) (hb : Nat.blt a 204 = true) (hl : oin l a (.inl (3, .inl (arr.set i v))) = l2) (h : RT MM dd mi (pc + 1) L st (ov hp l2) q) : RT MM dd mi pc L (.int v :: .int (Int32.ofNat i) :: .ref a :: st) (ov hp l) q :=
  ow_zas hf hk (rd_nat (gd_i hi) hb2) hv ha hb (by rw [show (Int32.ofNat i).toNatClampNeg = i from nI_c hb2]; exact hl) h
end
theorem FR_st {k mi : Nat} {As : List Value} {H : List AE} {v : Option Value} {l l2 : List (Nat × AE)} (hl : (Nat.ble (lg_sl As).length (mL MM mi) && Nat.ble (mL MM mi) 40) = true) (e : oil l l2 = l2) (h : RT MM k mi 0 (lv_args 0 As) [] (ov H l) (v, ov H l2)) : FR (k + 1) mi As (ov H l) (v, ov (ov H l) l2) := by
  rw [ov_ov, e]
  exact FR_of hl h
/-! ===== one TOKEN for both, as a state ===== -/
def TF (k n a kd w : Nat) (le : Int64) (nu nuM sg : Int32) (wd : Int64) : Prop :=
  a ≤ n ∧ k ≤ a ∧ (kd ≠ 0 → kd ≠ 4 → k + 1 ≤ a) ∧ kd < 5 ∧ w < 32 ∧
  (kd = 1 → ∃ rs : List Nat, vl rs = true ∧ 1 ≤ rs.length ∧ rs.length ≤ 7 ∧ le = p5 rs ∧ wd = p27 rs ∧ w = wix (p5 rs) 32 0) ∧ (kd ≠ 1 → w = 0) ∧
  (kd = 2 → ∃ v : Nat, v < 1000 ∧ nu = Int32.ofNat v ∧ nuM = Int32.ofNat v) ∧ (kd = 3 → ∃ c : Nat, c < 256 ∧ nu = Int32.ofNat c ∧ sg = Int32.ofNat c)
def TC (n lim : Nat) (po : List Value) (k : Nat) (tk td : Int32) (T M : AE) : Prop := ∃ (a kd pl w : Nat) (le : Int64) (nu fp nuM sg plM : Int32) (wd : Int64), T = tcl n lim a kd pl w le nu tk (Int32.ofNat 0) fp ∧ M = mcl (Int32.ofNat 0) (Int32.ofNat 0) n lim a pl (km kd) nuM sg (Int32.ofNat 0) plM wd td po ∧ TF k n a kd w le nu nuM sg wd
/-- both have refused, alike -/
def FC (n lim : Nat) (po : List Value) (T M : AE) : Prop := ∃ (a kd pl w : Nat) (le : Int64) (nu tk : Int32) (kk am fm kM : Nat) (nuM sg fa qm : Int32) (wd : Int64) (td : Int32), T = tcl n lim a kd pl w le nu tk (Int32.ofNat kk) (Int32.ofNat pl) ∧ M = mcl (Int32.ofNat 0) (Int32.ofNat 0) n lim am fm kM nuM sg fa qm wd td po ∧ fa = Int32.ofNat kk ∧ qm = Int32.ofNat pl ∧ 1 ≤ kk ∧ kk ≤ 4
def XQt (bs : List Int32) (k mi : Nat) (As : List Value) (T : AE) (r : Option Value) (T2 : AE) : Prop := ∀ H : List AE, Nat.ble 204 H.length = true → H[1]? = some T → H[2]? = some (bcl bs) → FR k mi As H (r, ov H [(1, T2)])
def MQt (ts : List Int32) (k mi : Nat) (As : List Value) (M : AE) (r : Option Value) (M2 : AE) : Prop := ∀ H : List AE, Nat.ble 204 H.length = true → H[180]? = some M → H[181]? = some (mtl ts) → FR k mi As H (r, ov H [(180, M2)])
theorem km_is : ∀ kd, kd < 5 → (km kd = 3 ↔ kd = 2) ∧ (km kd = 1 ↔ kd = 0) ∧ (km kd = 2 ↔ kd = 1) ∧ (km kd = 4 ↔ kd = 3) ∧ (km kd = 0 ↔ kd = 4) ∧ km kd < 10 := by decide
theorem adv_a (B : Nat → Nat) {n lim a : Nat} (ha : a ≤ n) : a ≤ (advV B n lim a).1 ∧ (advV B n lim a).1 ≤ n ∧ ((advV B n lim a).2.1 ≠ 0 → (advV B n lim a).2.1 ≠ 4 → a + 1 ≤ (advV B n lim a).1) := by
  have hs := skp_le B (n - a) a
  unfold advV
  generalize skp B (n - a) a = s at hs ⊢
  by_cases c1 : lim ≤ s ∧ lim < n
  · rw [if_pos c1]
    exact ⟨hs.1, by show s ≤ n; omega, fun e => absurd rfl e⟩
  · rw [if_neg c1]
    by_cases c2 : n ≤ s
    · rw [if_pos c2]
      exact ⟨hs.1, by show s ≤ n; omega, fun _ e => absurd rfl e⟩
    · rw [if_neg c2]
      by_cases c3 : isLt (B s) = true ∨ isDg (B s) = true
      · rw [if_pos c3]
        obtain ⟨ds, e1, -, -, -, e5⟩ := both_run B true s (n - s) s [] rfl
        have hm := e5 (by omega) c3
        rw [List.append_nil] at e1
        have e2 : (xrun B (n - s) s 0 0 0 0).1 = s + ds.length := congrArg Prod.fst e1
        have hle := (xrun_le B (n - s) s 0 0 0 0).1
        have hpos : 1 ≤ ds.length := by
          cases ds with
          | nil => exact absurd hm List.not_mem_nil
          | cons d ds => rw [List.length_cons]; omega
        exact ⟨by show a ≤ (xrun B (n - s) s 0 0 0 0).1; omega, by show (xrun B (n - s) s 0 0 0 0).1 ≤ n; omega, fun _ _ => by show a + 1 ≤ (xrun B (n - s) s 0 0 0 0).1; omega⟩
      · rw [if_neg c3]
        exact ⟨by show a ≤ s + 1; omega, by show s + 1 ≤ n; omega, fun _ _ => by show a + 1 ≤ s + 1; omega⟩
section
variable {B : Nat → Nat} {bs ts : List Int32} {n lim : Nat} {po : List Value} {k a kd pl w : Nat} {le : Int64} {nu tk td fp nuM sg plM : Int32} {wd : Int64}
theorem tc_begin (hb : ∀ i, B i < 256) (ha : a ≤ n) (hk : k ≤ a) : TC n lim po k tk td (advC B n lim a tk (Int32.ofNat 0) fp) (mcl (Int32.ofNat 0) (Int32.ofNat 0) n lim (goV B n lim a nuM sg wd).1 (goV B n lim a nuM sg wd).2.1 (goV B n lim a nuM sg wd).2.2.1 (goV B n lim a nuM sg wd).2.2.2.1 (goV B n lim a nuM sg wd).2.2.2.2.1 (Int32.ofNat 0) plM (goV B n lim a nuM sg wd).2.2.2.2.2 td po) := by
  obtain ⟨r1, r2, r3, r4, r5, r6, r7, r8⟩ := tok_rel B hb n lim a ha nuM sg wd
  obtain ⟨q1, q2, q3⟩ := adv_a B (lim := lim) ha
  refine ⟨(advV B n lim a).1, (advV B n lim a).2.1, (advV B n lim a).2.2.1, (advV B n lim a).2.2.2.1, (advV B n lim a).2.2.2.2.1, (advV B n lim a).2.2.2.2.2, fp, (goV B n lim a nuM sg wd).2.2.2.1, (goV B n lim a nuM sg wd).2.2.2.2.1, plM, (goV B n lim a nuM sg wd).2.2.2.2.2, rfl, by rw [r1, r2, ← r4], q2, by omega, fun e1 e2 => by have := q3 e1 e2; omega, by omega, ?_, r5, r6, r7, r8⟩
  by_cases c : (advV B n lim a).2.1 = 1
  · obtain ⟨rs, -, -, -, -, -, e⟩ := r5 c
    rw [e]
    exact wix_lt _ 32 0 rfl
  · rw [r6 c]; decide
theorem tc_adv (hb : ∀ i, B i < 256) (t : TF k n a kd w le nu nuM sg wd) (h0 : kd ≠ 0) (h4 : kd ≠ 4) : TC n lim po (k + 1) tk td (advC B n lim a tk (Int32.ofNat 0) fp) (mcl (Int32.ofNat 0) (Int32.ofNat 0) n lim (goV B n lim a nuM sg wd).1 (goV B n lim a nuM sg wd).2.1 (goV B n lim a nuM sg wd).2.2.1 (goV B n lim a nuM sg wd).2.2.2.1 (goV B n lim a nuM sg wd).2.2.2.2.1 (Int32.ofNat 0) plM (goV B n lim a nuM sg wd).2.2.2.2.2 td po) :=
  tc_begin hb t.1 (t.2.2.1 h0 h4)
theorem s_adv (hB : BY bs B) (hM : MY ts B) (hb : ∀ i, B i < 256) (hn : n ≤ 940) (hl : lim ≤ 940) (t : TF k n a kd w le nu nuM sg wd) (h0 : kd ≠ 0) (h4 : kd ≠ 4) : ∃ T M, TC n lim po (k + 1) tk td T M ∧ XQt bs 3 155 [.ref 1] (tcl n lim a kd pl w le nu tk (Int32.ofNat 0) fp) none T ∧ MQt ts 2 205 [.ref 180] (mcl (Int32.ofNat 0) (Int32.ofNat 0) n lim a pl (km kd) nuM sg (Int32.ofNat 0) plM wd td po) none M :=
  ⟨_, _, tc_adv hb t h0 h4, fun H hlen h1 h2 => x_adv hB hlen h1 h2 t.1 hn hl, fun H hlen h1 h2 => m_go hM hlen h1 h2 t.1 hn hl⟩
/-- both refuse at this TOKEN -/
theorem s_ref (t : TF k n a kd w le nu nuM sg wd) {kk : Nat} (hk1 : 1 ≤ kk) (hk4 : kk ≤ 4) (h : kd ≠ 0 ∨ kk = 1) : ∃ T M, FC n lim po T M ∧ XQt bs 1 165 [.ref 1, .int (Int32.ofNat kk)] (tcl n lim a kd pl w le nu tk (Int32.ofNat 0) fp) (some (.int (Int32.ofNat 0))) T ∧ MQt ts 1 174 [.ref 180, .int (Int32.ofNat kk)] (mcl (Int32.ofNat 0) (Int32.ofNat 0) n lim a pl (km kd) nuM sg (Int32.ofNat 0) plM wd td po) (some (.int (Int32.ofNat 0))) M := by
  obtain ⟨-, e1, -, -, -, e6⟩ := km_is kd t.2.2.2.1
  refine ⟨_, _, ⟨a, kd, pl, w, le, nu, tk, kk, a, pl, km kd, nuM, sg, (if km kd = 1 then Int32.ofNat 1 else Int32.ofNat kk), Int32.ofNat pl, wd, td, rfl, rfl, ?_, rfl, hk1, hk4⟩, fun H hlen h1 h2 => x_refuse hlen h1, fun H hlen h1 h2 => m_bad hlen h1 e6⟩
  by_cases c : km kd = 1
  · rw [if_pos c]
    rcases h with h | h
    · exact absurd (e1.mp c) h
    · rw [h]
  · rw [if_neg c]
theorem s_num (hB : BY bs B) (hM : MY ts B) (hb : ∀ i, B i < 256) (hn : n ≤ 940) (hl : lim ≤ 940) (t : TF k n a kd w le nu nuM sg wd) {lo hi : Nat} (hlo : lo < 2000) (hhi : hi < 2000) : (∃ T M, FC n lim po T M ∧ XQt bs 4 168 [.ref 1, .int (Int32.ofNat lo), .int (Int32.ofNat hi)] (tcl n lim a kd pl w le nu tk (Int32.ofNat 0) fp) (some (.int (Int32.ofNat 0))) T ∧ MQt ts 3 260 [.ref 180, .int (Int32.ofNat lo), .int (Int32.ofNat hi)] (mcl (Int32.ofNat 0) (Int32.ofNat 0) n lim a pl (km kd) nuM sg (Int32.ofNat 0) plM wd td po) (some (.int (Int32.ofNat 0))) M) ∨ (∃ v T M, lo ≤ v ∧ v ≤ hi ∧ TC n lim po (k + 1) (Int32.ofNat v) (Int32.ofNat v) T M ∧ XQt bs 4 168 [.ref 1, .int (Int32.ofNat lo), .int (Int32.ofNat hi)] (tcl n lim a kd pl w le nu tk (Int32.ofNat 0) fp) (some (.int (Int32.ofNat 1))) T ∧ MQt ts 3 260 [.ref 180, .int (Int32.ofNat lo), .int (Int32.ofNat hi)] (mcl (Int32.ofNat 0) (Int32.ofNat 0) n lim a pl (km kd) nuM sg (Int32.ofNat 0) plM wd td po) (some (.int (Int32.ofNat 1))) M) := by
  obtain ⟨e3, e1, -, -, -, e6⟩ := km_is kd t.2.2.2.1
  have hk : kd < 10 := by have := t.2.2.2.1; omega
  by_cases c1 : kd = 2
  · obtain ⟨v, v1, v2, v3⟩ := t.2.2.2.2.2.2.2.1 c1
    subst v2 v3
    by_cases c2 : lo ≤ v ∧ v ≤ hi
    · have c3 : (Nat.ble lo v && Nat.ble v hi) = true := by rw [Nat.ble_eq_true_of_le c2.1, Nat.ble_eq_true_of_le c2.2]; rfl
      exact Or.inr ⟨v, _, _, c2.1, c2.2, tc_adv hb t (by omega) (by omega), fun H hlen h1 h2 => x_takesNumber_t hB hlen h1 h2 t.1 hn hl hk hlo hhi (by omega) c1 rfl c2.1 c2.2, fun H hlen h1 h2 => m_readNumber_t hM hlen h1 h2 t.1 hn hl e6 hlo hhi (by omega) (e3.mpr c1) rfl c3⟩
    · have c3 : (Nat.ble lo v && Nat.ble v hi) = false := by
        by_cases c4 : lo ≤ v
        · rw [ble_f (show hi < v by omega), Bool.and_false]
        · rw [ble_f (show v < lo by omega)]; rfl
      refine Or.inl ⟨_, _, ⟨a, kd, pl, w, le, Int32.ofNat v, tk, 2, a, pl, km kd, Int32.ofNat v, sg, (if km kd = 1 then Int32.ofNat 1 else Int32.ofNat 2), Int32.ofNat pl, wd, td, rfl, rfl, ?_, rfl, by decide, by decide⟩, fun H hlen h1 h2 => x_takesNumber_2 hB hlen h1 h2 t.1 hn hl hk hlo hhi (by omega) c1 rfl (by omega), fun H hlen h1 h2 => m_readNumber_2 hM hlen h1 h2 t.1 hn hl e6 hlo hhi (by omega) (e3.mpr c1) rfl c3⟩
      rw [if_neg (fun e => by have := e1.mp e; omega)]
  · refine Or.inl ⟨_, _, ⟨a, kd, pl, w, le, nu, tk, 1, a, pl, km kd, nuM, sg, (if km kd = 1 then Int32.ofNat 1 else Int32.ofNat 1), Int32.ofNat pl, wd, td, rfl, rfl, ?_, rfl, by decide, by decide⟩, fun H hlen h1 h2 => x_takesNumber_1 hB hlen h1 h2 t.1 hn hl hk c1, fun H hlen h1 h2 => m_readNumber_1 hM hlen h1 h2 t.1 hn hl e6 (fun e => c1 (e3.mp e))⟩
    split <;> rfl
/-- the sign that ends a LINE -/
theorem s_end (hB : BY bs B) (hM : MY ts B) (hb : ∀ i, B i < 256) (hn : n ≤ 940) (hl : lim ≤ 940) (t : TF k n a kd w le nu nuM sg wd) : (∃ T M, FC n lim po T M ∧ XQt bs 4 167 [.ref 1, .int (Int32.ofNat 59)] (tcl n lim a kd pl w le nu tk (Int32.ofNat 0) fp) (some (.int (Int32.ofNat 0))) T ∧ MQt ts 3 251 [.ref 180] (mcl (Int32.ofNat 0) (Int32.ofNat 0) n lim a pl (km kd) nuM sg (Int32.ofNat 0) plM wd td po) (some (.int (Int32.ofNat 0))) M) ∨ (∃ T M, TC n lim po (k + 1) tk td T M ∧ XQt bs 4 167 [.ref 1, .int (Int32.ofNat 59)] (tcl n lim a kd pl w le nu tk (Int32.ofNat 0) fp) (some (.int (Int32.ofNat 1))) T ∧ MQt ts 3 251 [.ref 180] (mcl (Int32.ofNat 0) (Int32.ofNat 0) n lim a pl (km kd) nuM sg (Int32.ofNat 0) plM wd td po) (some (.int (Int32.ofNat 1))) M) := by
  obtain ⟨-, e1, -, e4, -, e6⟩ := km_is kd t.2.2.2.1
  have hk : kd < 10 := by have := t.2.2.2.1; omega
  have hs : ∃ c : Nat, c < 256 ∧ (kd = 3 → nu = Int32.ofNat c ∧ sg = Int32.ofNat c) := by
    by_cases c1 : kd = 3
    · obtain ⟨c, q1, q2, q3⟩ := t.2.2.2.2.2.2.2.2 c1
      exact ⟨c, q1, fun _ => ⟨q2, q3⟩⟩
    · exact ⟨0, by decide, fun e => absurd e c1⟩
  obtain ⟨c, q1, q2⟩ := hs
  by_cases c1 : kd = 3 ∧ c = 59
  · have f1 : (Nat.beq kd 3 && Nat.beq c 59) = true := by rw [c1.1, c1.2]; rfl
    have f2 : (Nat.beq (km kd) 4 && Nat.beq c 59) = true := by rw [c1.1, c1.2]; rfl
    exact Or.inr ⟨_, _, tc_adv hb t (by omega) (by omega), fun H hlen h1 h2 => x_takesMark_t hB hlen h1 h2 t.1 hn hl hk (by decide) q1 (fun e => (q2 e).1) f1, fun H hlen h1 h2 => m_readEnd_t hM hlen h1 h2 t.1 hn hl e6 q1 (fun e => (q2 (e4.mp e)).2) f2⟩
  · have f0 : ∀ x y : Nat, (x = y → kd = 3) → (Nat.beq x y && Nat.beq c 59) = false := fun x y hxy => by
      by_cases d1 : x = y
      · rw [nbqf (a := c) (b := 59) (fun e => c1 ⟨hxy d1, e⟩), Bool.and_false]
      · rw [nbqf d1]; rfl
    refine Or.inl ⟨_, _, ⟨a, kd, pl, w, le, nu, tk, 1, a, pl, km kd, nuM, sg, (if km kd = 1 then Int32.ofNat 1 else Int32.ofNat 1), Int32.ofNat pl, wd, td, rfl, rfl, ?_, rfl, by decide, by decide⟩, fun H hlen h1 h2 => x_takesMark_f hB hlen h1 h2 t.1 hn hl hk (by decide) q1 (fun e => (q2 e).1) (f0 kd 3 (fun e => e)), fun H hlen h1 h2 => m_readEnd_f hM hlen h1 h2 t.1 hn hl e6 q1 (fun e => (q2 (e4.mp e)).2) (f0 (km kd) 4 (fun e => e4.mp e))⟩
    split <;> rfl
theorem w_is (t : TF k n a kd w le nu nuM sg wd) {j : Nat} (hj : j < 30) : isW (km kd) wd j = decide (w = WX.getD j 0) := by
  obtain ⟨-, -, e2, -, -, -⟩ := km_is kd t.2.2.2.1
  by_cases c : kd = 1
  · obtain ⟨rs, r1, r2, r3, r4, r5, r6⟩ := t.2.2.2.2.2.1 c
    have hi := word_iff r1 r3 hj
    unfold isW
    rw [e2.mpr c, r5, r6]
    show (true && decide (p27 rs = wo j)) = _
    rw [Bool.true_and]
    exact decide_eq_decide.mpr hi
  · rw [t.2.2.2.2.2.2.1 c]
    unfold isW
    rw [nbqf (fun e => c (e2.mp e))]
    have := (wt_ok j hj).2.2.2.2
    exact (decide_eq_false (by omega)).symm
theorem w_nm (t : TF k n a kd w le nu nuM sg wd) : (Nat.beq (km kd) 2 && nmB wd 30 0) = decide (w = 1) := by
  obtain ⟨-, -, e2, -, -, -⟩ := km_is kd t.2.2.2.1
  by_cases c : kd = 1
  · obtain ⟨rs, r1, r2, r3, r4, r5, r6⟩ := t.2.2.2.2.2.1 c
    have hi := name_iff r1 r2 r3
    rw [e2.mpr c, r5, r6]
    show (true && nmB (p27 rs) 30 0) = _
    rw [Bool.true_and]
    by_cases c2 : wix (p5 rs) 32 0 = 1
    · rw [hi.mpr c2, decide_eq_true c2]
    · rw [decide_eq_false c2]
      cases e : nmB (p27 rs) 30 0 with
      | false => rfl
      | true => exact absurd (hi.mp e) c2
  · rw [t.2.2.2.2.2.2.1 c, nbqf (fun e => c (e2.mp e))]
    rfl
theorem w_k1 (t : TF k n a kd w le nu nuM sg wd) (h : w ≠ 0) : kd = 1 := by
  by_cases c : kd = 1
  · exact c
  · exact absurd (t.2.2.2.2.2.2.1 c) h
end
end
section
/-! ===== a DUCHY as both keep it ===== -/
def lng (l : List Int64) : AE := .inl (2, .inr (.inl l))
def ia (l : List Int32) : AE := .inl (1, .inl l)
def zb (l : List Int32) : AE := .inl (3, .inl l)
def nok (rs : List Nat) : Prop := vl rs = true ∧ 1 ≤ rs.length ∧ rs.length ≤ 7
def fd (L : List Int64) (w : Int64) (o : Nat) : Nat → Nat → Option Nat
  | 0, _ => none
  | r + 1, i => if L.getD (o + i) 0 = w then some i else fd L w o r (i + 1)
def fdI : Option Nat → Int32
  | none => (-1 : Int32)
  | some i => Int32.ofNat i
theorem fd_lt {L : List Int64} {w : Int64} {o : Nat} : ∀ {r i j : Nat}, fd L w o r i = some j → i ≤ j ∧ j < i + r
  | 0, i, j, h => by cases h
  | r + 1, i, j, h => by
    have h : (if L.getD (o + i) 0 = w then some i else fd L w o r (i + 1)) = some j := h
    by_cases c : L.getD (o + i) 0 = w
    · rw [if_pos c] at h
      cases h
      omega
    · rw [if_neg c] at h
      have := fd_lt h
      omega
theorem fd_eq {L L2 : List Int64} {w w2 : Int64} {o o2 : Nat} : ∀ {r i : Nat}, (∀ j, i ≤ j → j < i + r → (L.getD (o + j) 0 = w ↔ L2.getD (o2 + j) 0 = w2)) → fd L w o r i = fd L2 w2 o2 r i
  | 0, i, _ => rfl
  | r + 1, i, h => by
    show (if L.getD (o + i) 0 = w then some i else fd L w o r (i + 1)) = (if L2.getD (o2 + i) 0 = w2 then some i else fd L2 w2 o2 r (i + 1))
    have h0 := h i (Nat.le_refl _) (by omega)
    have ih := fd_eq (L := L) (L2 := L2) (w := w) (w2 := w2) (o := o) (o2 := o2) (r := r) (i := i + 1) (fun j a b => h j (by omega) (by omega))
    by_cases c : L.getD (o + i) 0 = w
    · rw [if_pos c, if_pos (h0.mp c)]
    · rw [if_neg c, if_neg (fun e => c (h0.mpr e)), ih]
theorem fdI_n {x : Option Nat} (h : x = none) : fdI x = (-1 : Int32) := by rw [h]; rfl
theorem fdI_s {x : Option Nat} {j : Nat} (h : x = some j) (hj : j < 100) : ¬ fdI x = (-1 : Int32) := by
  rw [h]
  intro e
  have e : Int32.ofNat j = (-1 : Int32) := e
  have e := congrArg Int32.toInt e
  rw [n_int (by omega)] at e
  rw [show (-1 : Int32).toInt = -1 from rfl] at e
  omega
theorem gDx {L : List Int64} {i : Nat} {v : Int64} (h : L[i]? = some v) : L.getD i 0 = v := by
  rw [List.getD_eq_getElem?_getD, h]; rfl
theorem gDy {L : List Int64} {i : Nat} (h : i < L.length) : L[i]? = some (L.getD i 0) := by
  rw [List.getD_eq_getElem?_getD, List.getElem?_eq_getElem h]; rfl
/-- the same NAMES are found -/
theorem nm_eq {pn rn : List Int64} {o P : Nat} {rs : List Nat} (hr : nok rs) (h : ∀ i, i < P → ∃ ss, nok ss ∧ pn[i]? = some (p5 ss) ∧ rn[o + i]? = some (p27 ss)) : fd pn (p5 rs) 0 P 0 = fd rn (p27 rs) o P 0 := by
  refine fd_eq (fun j _ hj => ?_)
  obtain ⟨ss, s1, s2, s3⟩ := h j (by omega)
  rw [Nat.zero_add, gDx s2, gDx s3]
  constructor
  · intro e; rw [p5_inj s1.1 hr.1 s1.2.2 hr.2.2 e]
  · intro e; rw [p27_inj s1.1 hr.1 s1.2.2 hr.2.2 e]
def OC (lw : Int32) (d : Nat) (r : Option Int32) (o : Option Int32) : Prop := (lw = Int32.ofNat 0 ∧ r = some (Int32.ofNat d) ∧ o = some (Int32.ofNat 0)) ∨ ∃ v : Nat, 1 ≤ v ∧ v ≤ 30 ∧ lw = Int32.ofNat v ∧ r = some (Int32.ofNat v) ∧ o = some (Int32.ofNat 1)
def WA (P : Nat) (wa rd : List Int32) : Prop := ∃ X Y : Nat → Nat, (∀ q, q < 7 → wa[q]? = some (Int32.ofNat (X q)) ∧ X q < 128 ∧ rd[45 + q]? = some (Int32.ofNat (Y q)) ∧ Y q < 2 ^ P) ∧ ∀ p q, p < 7 → q < 7 → (X q).testBit p = (Y p).testBit q
def DL (pn : List Int64) (ri lf wa fo : List Int32) (dn : List Int64) (ha pa bl : List Int32) : Prop := pn.length = 7 ∧ ri.length = 7 ∧ lf.length = 7 ∧ wa.length = 7 ∧ fo.length = 49 ∧ dn.length = 8 ∧ ha.length = 8 ∧ pa.length = 8 ∧ bl.length = 8
def NR (P Dn : Nat) (pn dn rn : List Int64) : Prop := (∀ i, i < P → ∃ ss, nok ss ∧ pn[i]? = some (p5 ss) ∧ rn[0 + i]? = some (p27 ss)) ∧ ∀ i, i < Dn → ∃ ss, nok ss ∧ dn[i]? = some (p5 ss) ∧ rn[7 + i]? = some (p27 ss)
def VR (P Dn gl bo : Nat) (ri lf fo ha pa bl rd : List Int32) : Prop := rd[0]? = some (Int32.ofNat P) ∧ rd[1]? = some (Int32.ofNat Dn) ∧ rd[19]? = some (Int32.ofNat gl) ∧ gl < 128 ∧ rd[44]? = some (Int32.ofNat bo) ∧ bo < 256 ∧ (∀ i, i < P → ri[i]? = rd[5 + i]? ∧ lf[i]? = rd[12 + i]?) ∧ (∀ i, i < Dn → ha[i]? = rd[20 + i]? ∧ pa[i]? = rd[28 + i]? ∧ bl[i]? = rd[36 + i]?) ∧ ∀ i, i < 49 → fo[i]? = rd[52 + i]?
/-- what is read so far -/
def DR (P Dn : Nat) (lw cl id : Int32) (gl bo : Nat) (pn : List Int64) (ri lf wa fo : List Int32) (dn : List Int64) (ha pa bl : List Int32) (rd : List Int32) (rn : List Int64) (on : List Int32) : Prop :=
  P ≤ 7 ∧ Dn ≤ 8 ∧ DL pn ri lf wa fo dn ha pa bl ∧ rd.length = 101 ∧ rn.length = 15 ∧ on.length = 3 ∧ NR P Dn pn dn rn ∧ VR P Dn gl bo ri lf fo ha pa bl rd ∧ WA P wa rd ∧ OC lw 10 rd[2]? on[0]? ∧ OC cl 3 rd[3]? on[1]? ∧ OC id 5 rd[4]? on[2]?
theorem wa_up {P : Nat} {wa rd : List Int32} (h : WA P wa rd) : WA (P + 1) wa rd := by
  obtain ⟨X, Y, h1, h2⟩ := h
  exact ⟨X, Y, fun q hq => ⟨(h1 q hq).1, (h1 q hq).2.1, (h1 q hq).2.2.1, Nat.lt_of_lt_of_le (h1 q hq).2.2.2 (Nat.pow_le_pow_right (by decide) (Nat.le_succ P))⟩, h2⟩
theorem p7_lt {P y : Nat} (h : y < 2 ^ P) (hP : P ≤ 7) : y < 128 := Nat.lt_of_lt_of_le h (Nat.pow_le_pow_right (by decide) hP)
theorem wa_set {P : Nat} {wa rd : List Int32} {j : Nat} {v : Int32} (h : WA P wa rd) (hj : j < 45 ∨ 52 ≤ j) : WA P wa (rd.set j v) := by
  obtain ⟨X, Y, h1, h2⟩ := h
  refine ⟨X, Y, fun q hq => ?_, h2⟩
  obtain ⟨a1, a2, a3, a4⟩ := h1 q hq
  exact ⟨a1, a2, by rw [List.getElem?_set_ne (by omega)]; exact a3, a4⟩
theorem oc_set {lw : Int32} {d i j : Nat} {rd : List Int32} {v : Int32} {o : Option Int32} (h : OC lw d rd[i]? o) (hj : j ≠ i) : OC lw d (rd.set j v)[i]? o := by
  rw [List.getElem?_set_ne hj]; exact h
theorem oc_set2 {lw : Int32} {d i j i2 k : Nat} {rd on : List Int32} {v w : Int32} (h : OC lw d rd[i]? on[i2]?) (hj : j ≠ i) (hk : k ≠ i2) : OC lw d (rd.set j v)[i]? (on.set k w)[i2]? := by
  rw [List.getElem?_set_ne hj, List.getElem?_set_ne hk]; exact h
/-- bits -/
theorem or_1 : ∀ k, k < 8 → ∀ x, x < 256 → Int32.ofNat x ||| (Int32.ofNat 1 <<< (Int32.ofNat k &&& 31)) = Int32.ofNat (x ||| 2 ^ k) := by decide +kernel
theorem or_lt {x k m : Nat} (hx : x < 2 ^ m) (hk : k < m) : x ||| 2 ^ k < 2 ^ m := Nat.or_lt_two_pow hx (Nat.pow_lt_pow_right (by decide) hk)
theorem ushr_1 : ∀ k, k < 8 → ∀ x, x < 256 → ((Int32.ofNat x).toUInt32 >>> ((Int32.ofNat k).toUInt32 &&& Int32.toUInt32 31)).toInt32 &&& Int32.ofNat 1 = b01 (x.testBit k) := by decide +kernel
theorem shr_1 : ∀ k, k < 8 → ∀ x, x < 256 → (Int32.ofNat x >>> (Int32.ofNat k &&& 31)) &&& Int32.ofNat 1 = b01 (x.testBit k) := by decide +kernel
theorem b01_1 {b : Bool} (h : b = true) : b01 b = Int32.ofNat 1 := by rw [h]; rfl
theorem b01_0 {b : Bool} (h : b = false) : ¬ b01 b = Int32.ofNat 1 := by rw [h]; decide
theorem dv7 : ∀ p, p < 7 → ∀ q, q < 7 → Int32.ofNat (p * 7 + q) / Int32.ofNat 7 = Int32.ofNat p := by decide +kernel
theorem rm7 : ∀ p, p < 7 → ∀ q, q < 7 → Int32.ofNat (p * 7 + q) - Int32.ofNat (p * 7 + q) / Int32.ofNat 7 * Int32.ofNat 7 = Int32.ofNat q := by decide +kernel
theorem bit_or {x k i : Nat} : (x ||| 2 ^ k).testBit i = (x.testBit i || decide (k = i)) := by
  rw [Nat.testBit_or, Nat.testBit_two_pow]
/-- one more pair of 'sees' -/
theorem wa_sees {P : Nat} {wa rd : List Int32} (h : WA P wa rd) (hP : P ≤ 7) (hw : wa.length = 7) (hr : rd.length = 101) {p q : Nat} (hp0 : p < P) (hq0 : q < P) : ∃ x y : Nat, wa[q]? = some (Int32.ofNat x) ∧ rd[45 + p]? = some (Int32.ofNat y) ∧ x < 128 ∧ y < 128 ∧ x.testBit p = y.testBit q ∧ WA P (wa.set q (Int32.ofNat (x ||| 2 ^ p))) (rd.set (45 + p) (Int32.ofNat (y ||| 2 ^ q))) := by
  have hp : p < 7 := Nat.lt_of_lt_of_le hp0 hP
  have hq : q < 7 := Nat.lt_of_lt_of_le hq0 hP
  obtain ⟨X, Y, h1, h2⟩ := h
  refine ⟨X q, Y p, (h1 q hq).1, (h1 p hp).2.2.1, (h1 q hq).2.1, p7_lt (h1 p hp).2.2.2 hP, h2 p q hp hq, ?_⟩
  refine ⟨fun i => if i = q then X q ||| 2 ^ p else X i, fun i => if i = p then Y p ||| 2 ^ q else Y i, fun i hi => ?_, fun i j hi hj => ?_⟩
  · obtain ⟨a1, a2, a3, a4⟩ := h1 i hi
    refine ⟨?_, ?_, ?_, ?_⟩
    · by_cases c : i = q
      · subst c
        rw [List.getElem?_set_self (by omega)]
        show _ = some (Int32.ofNat (if i = i then _ else _))
        rw [if_pos rfl]
      · rw [List.getElem?_set_ne (fun e => c e.symm)]
        show _ = some (Int32.ofNat (if i = q then _ else X i))
        rw [if_neg c]; exact a1
    · show (if i = q then X q ||| 2 ^ p else X i) < 128
      by_cases c : i = q
      · rw [if_pos c]; exact or_lt (m := 7) (h1 q hq).2.1 hp
      · rw [if_neg c]; exact a2
    · by_cases c : i = p
      · subst c
        rw [List.getElem?_set_self (by omega)]
        show _ = some (Int32.ofNat (if i = i then _ else _))
        rw [if_pos rfl]
      · rw [List.getElem?_set_ne (by omega)]
        show _ = some (Int32.ofNat (if i = p then _ else Y i))
        rw [if_neg c]; exact a3
    · show (if i = p then Y p ||| 2 ^ q else Y i) < 2 ^ P
      by_cases c : i = p
      · rw [if_pos c]; exact or_lt (m := P) (h1 p hp).2.2.2 hq0
      · rw [if_neg c]; exact a4
  · show (if j = q then X q ||| 2 ^ p else X j).testBit i = (if i = p then Y p ||| 2 ^ q else Y i).testBit j
    by_cases c1 : j = q
    · subst c1
      by_cases c2 : i = p
      · subst c2
        rw [if_pos rfl, if_pos rfl, bit_or, bit_or, h2 i j hi hj]
        simp
      · rw [if_pos rfl, if_neg c2, bit_or, h2 i j hi hj, decide_eq_false (fun e => c2 e.symm), Bool.or_false]
    · by_cases c2 : i = p
      · subst c2
        rw [if_neg c1, if_pos rfl, bit_or, h2 i j hi hj, decide_eq_false (fun e => c1 e.symm), Bool.or_false]
      · rw [if_neg c1, if_neg c2]; exact h2 i j hi hj
section
variable {P Dn gl bo : Nat} {lw cl id : Int32} {pn : List Int64} {ri lf wa fo : List Int32} {dn : List Int64} {ha pa bl rd : List Int32} {rn : List Int64} {on : List Int32}
theorem nr_p {rs : List Nat} (hr : nok rs) (h : NR P Dn pn dn rn) (hP : P < 7) (l1 : pn.length = 7) (l2 : rn.length = 15) : NR (P + 1) Dn (pn.set P (p5 rs)) dn (rn.set P (p27 rs)) := by
  refine ⟨fun i hi => ?_, fun i hi => ?_⟩
  · by_cases c : i = P
    · subst c
      exact ⟨rs, hr, List.getElem?_set_self (by omega), by rw [Nat.zero_add]; exact List.getElem?_set_self (by omega)⟩
    · obtain ⟨ss, s1, s2, s3⟩ := h.1 i (by omega)
      exact ⟨ss, s1, by rw [List.getElem?_set_ne (by omega)]; exact s2, by rw [List.getElem?_set_ne (by omega)]; exact s3⟩
  · obtain ⟨ss, s1, s2, s3⟩ := h.2 i hi
    exact ⟨ss, s1, s2, by rw [List.getElem?_set_ne (by omega)]; exact s3⟩
theorem nr_d {rs : List Nat} (hr : nok rs) (h : NR P Dn pn dn rn) (hP : P ≤ 7) (hD : Dn < 8) (l1 : dn.length = 8) (l2 : rn.length = 15) : NR P (Dn + 1) pn (dn.set Dn (p5 rs)) (rn.set (7 + Dn) (p27 rs)) := by
  refine ⟨fun i hi => ?_, fun i hi => ?_⟩
  · obtain ⟨ss, s1, s2, s3⟩ := h.1 i hi
    exact ⟨ss, s1, s2, by rw [List.getElem?_set_ne (by omega)]; exact s3⟩
  · by_cases c : i = Dn
    · subst c
      exact ⟨rs, hr, List.getElem?_set_self (by omega), List.getElem?_set_self (by omega)⟩
    · obtain ⟨ss, s1, s2, s3⟩ := h.2 i (by omega)
      exact ⟨ss, s1, by rw [List.getElem?_set_ne (by omega)]; exact s2, by rw [List.getElem?_set_ne (by omega)]; exact s3⟩
/-- numbers of a PERSON -/
theorem vr_p {v1 v2 : Int32} (h : VR P Dn gl bo ri lf fo ha pa bl rd) (hP : P < 7) (hD : Dn ≤ 8) (l1 : ri.length = 7) (l2 : lf.length = 7) (l3 : rd.length = 101) : VR (P + 1) Dn gl bo (ri.set P v1) (lf.set P v2) fo ha pa bl (((rd.set (5 + P) v1).set (12 + P) v2).set 0 (Int32.ofNat (P + 1))) := by
  obtain ⟨h0, h1, h2, h3, h4, h5, h6, h7, h8⟩ := h
  have k : ∀ j, j ≠ 5 + P → j ≠ 12 + P → j ≠ 0 → (((rd.set (5 + P) v1).set (12 + P) v2).set 0 (Int32.ofNat (P + 1)))[j]? = rd[j]? := fun j e1 e2 e3 => by
    rw [List.getElem?_set_ne (fun e => e3 e.symm), List.getElem?_set_ne (fun e => e2 e.symm), List.getElem?_set_ne (fun e => e1 e.symm)]
  refine ⟨?_, ?_, ?_, h3, ?_, h5, fun i hi => ?_, fun i hi => ?_, fun i hi => ?_⟩
  · rw [List.getElem?_set_self (by rw [List.length_set, List.length_set]; omega)]
  · rw [k 1 (by omega) (by omega) (by omega)]; exact h1
  · rw [k 19 (by omega) (by omega) (by omega)]; exact h2
  · rw [k 44 (by omega) (by omega) (by omega)]; exact h4
  · by_cases c : i = P
    · subst c
      refine ⟨?_, ?_⟩
      · rw [List.getElem?_set_self (by omega), List.getElem?_set_ne (by omega), List.getElem?_set_ne (by omega), List.getElem?_set_self (by omega)]
      · rw [List.getElem?_set_self (by omega), List.getElem?_set_ne (by omega), List.getElem?_set_self (by rw [List.length_set]; omega)]
    · rw [k _ (by omega) (by omega) (by omega), k _ (by omega) (by omega) (by omega), List.getElem?_set_ne (fun e => c e.symm), List.getElem?_set_ne (fun e => c e.symm)]
      exact h6 i (by omega)
  · rw [k _ (by omega) (by omega) (by omega), k _ (by omega) (by omega) (by omega), k _ (by omega) (by omega) (by omega)]
    exact h7 i hi
  · rw [k _ (by omega) (by omega) (by omega)]; exact h8 i hi
/-- numbers of a DEED -/
theorem vr_d {v1 v2 v3 : Int32} (h : VR P Dn gl bo ri lf fo ha pa bl rd) (hP : P ≤ 7) (hD : Dn < 8) (l1 : ha.length = 8) (l2 : pa.length = 8) (l4 : bl.length = 8) (l3 : rd.length = 101) : VR P (Dn + 1) gl bo ri lf fo (ha.set Dn v1) (pa.set Dn v2) (bl.set Dn v3) ((((rd.set (20 + Dn) v1).set (28 + Dn) v2).set (36 + Dn) v3).set 1 (Int32.ofNat (Dn + 1))) := by
  obtain ⟨h0, h1, h2, h3, h4, h5, h6, h7, h8⟩ := h
  have k : ∀ j, j ≠ 20 + Dn → j ≠ 28 + Dn → j ≠ 36 + Dn → j ≠ 1 → ((((rd.set (20 + Dn) v1).set (28 + Dn) v2).set (36 + Dn) v3).set 1 (Int32.ofNat (Dn + 1)))[j]? = rd[j]? := fun j e1 e2 e3 e4 => by
    rw [List.getElem?_set_ne (fun e => e4 e.symm), List.getElem?_set_ne (fun e => e3 e.symm), List.getElem?_set_ne (fun e => e2 e.symm), List.getElem?_set_ne (fun e => e1 e.symm)]
  refine ⟨?_, ?_, ?_, h3, ?_, h5, fun i hi => ?_, fun i hi => ?_, fun i hi => ?_⟩
  · rw [k 0 (by omega) (by omega) (by omega) (by omega)]; exact h0
  · rw [List.getElem?_set_self (by rw [List.length_set, List.length_set, List.length_set]; omega)]
  · rw [k 19 (by omega) (by omega) (by omega) (by omega)]; exact h2
  · rw [k 44 (by omega) (by omega) (by omega) (by omega)]; exact h4
  · rw [k _ (by omega) (by omega) (by omega) (by omega), k _ (by omega) (by omega) (by omega) (by omega)]
    exact h6 i hi
  · by_cases c : i = Dn
    · subst c
      refine ⟨?_, ?_, ?_⟩
      · rw [List.getElem?_set_self (by omega), List.getElem?_set_ne (by omega), List.getElem?_set_ne (by omega), List.getElem?_set_ne (by omega), List.getElem?_set_self (by omega)]
      · rw [List.getElem?_set_self (by omega), List.getElem?_set_ne (by omega), List.getElem?_set_ne (by omega), List.getElem?_set_self (by rw [List.length_set]; omega)]
      · rw [List.getElem?_set_self (by omega), List.getElem?_set_ne (by omega), List.getElem?_set_self (by rw [List.length_set, List.length_set]; omega)]
    · rw [k _ (by omega) (by omega) (by omega) (by omega), k _ (by omega) (by omega) (by omega) (by omega), k _ (by omega) (by omega) (by omega) (by omega), List.getElem?_set_ne (fun e => c e.symm), List.getElem?_set_ne (fun e => c e.symm), List.getElem?_set_ne (fun e => c e.symm)]
      exact h7 i (by omega)
  · rw [k _ (by omega) (by omega) (by omega) (by omega)]; exact h8 i hi
/-- a flag of a PERSON, of a DEED -/
theorem vr_g {g2 : Nat} (h : VR P Dn gl bo ri lf fo ha pa bl rd) (hP : P ≤ 7) (hD : Dn ≤ 8) (hg : g2 < 128) (l3 : rd.length = 101) : VR P Dn g2 bo ri lf fo ha pa bl (rd.set 19 (Int32.ofNat g2)) := by
  obtain ⟨h0, h1, h2, h3, h4, h5, h6, h7, h8⟩ := h
  have k : ∀ j, j ≠ 19 → (rd.set 19 (Int32.ofNat g2))[j]? = rd[j]? := fun j e1 => List.getElem?_set_ne (fun e => e1 e.symm)
  refine ⟨by rw [k 0 (by omega)]; exact h0, by rw [k 1 (by omega)]; exact h1, List.getElem?_set_self (by omega), hg, by rw [k 44 (by omega)]; exact h4, h5, fun i hi => ?_, fun i hi => ?_, fun i hi => ?_⟩
  · rw [k _ (by omega), k _ (by omega)]; exact h6 i hi
  · rw [k _ (by omega), k _ (by omega), k _ (by omega)]; exact h7 i hi
  · rw [k _ (by omega)]; exact h8 i hi
theorem vr_b {g2 : Nat} (h : VR P Dn gl bo ri lf fo ha pa bl rd) (hP : P ≤ 7) (hD : Dn ≤ 8) (hg : g2 < 256) (l3 : rd.length = 101) : VR P Dn gl g2 ri lf fo ha pa bl (rd.set 44 (Int32.ofNat g2)) := by
  obtain ⟨h0, h1, h2, h3, h4, h5, h6, h7, h8⟩ := h
  have k : ∀ j, j ≠ 44 → (rd.set 44 (Int32.ofNat g2))[j]? = rd[j]? := fun j e1 => List.getElem?_set_ne (fun e => e1 e.symm)
  refine ⟨by rw [k 0 (by omega)]; exact h0, by rw [k 1 (by omega)]; exact h1, by rw [k 19 (by omega)]; exact h2, h3, List.getElem?_set_self (by omega), hg, fun i hi => ?_, fun i hi => ?_, fun i hi => ?_⟩
  · rw [k _ (by omega), k _ (by omega)]; exact h6 i hi
  · rw [k _ (by omega), k _ (by omega), k _ (by omega)]; exact h7 i hi
  · rw [k _ (by omega)]; exact h8 i hi
/-- what lies beside the numbers -/
theorem vr_o {j : Nat} {v : Int32} (h : VR P Dn gl bo ri lf fo ha pa bl rd) (hP : P ≤ 7) (hD : Dn ≤ 8) (hj : (2 ≤ j ∧ j ≤ 4) ∨ (45 ≤ j ∧ j < 52)) : VR P Dn gl bo ri lf fo ha pa bl (rd.set j v) := by
  obtain ⟨h0, h1, h2, h3, h4, h5, h6, h7, h8⟩ := h
  have k : ∀ i, i ≠ j → (rd.set j v)[i]? = rd[i]? := fun i e1 => List.getElem?_set_ne (fun e => e1 e.symm)
  refine ⟨by rw [k 0 (by omega)]; exact h0, by rw [k 1 (by omega)]; exact h1, by rw [k 19 (by omega)]; exact h2, h3, by rw [k 44 (by omega)]; exact h4, h5, fun i hi => ?_, fun i hi => ?_, fun i hi => ?_⟩
  · rw [k _ (by omega), k _ (by omega)]; exact h6 i hi
  · rw [k _ (by omega), k _ (by omega), k _ (by omega)]; exact h7 i hi
  · rw [k _ (by omega)]; exact h8 i hi
theorem vr_f {j : Nat} {v : Int32} (h : VR P Dn gl bo ri lf fo ha pa bl rd) (hP : P ≤ 7) (hD : Dn ≤ 8) (hj : j < 49) (l1 : fo.length = 49) (l3 : rd.length = 101) : VR P Dn gl bo ri lf (fo.set j v) ha pa bl (rd.set (52 + j) v) := by
  obtain ⟨h0, h1, h2, h3, h4, h5, h6, h7, h8⟩ := h
  have k : ∀ i, i ≠ 52 + j → (rd.set (52 + j) v)[i]? = rd[i]? := fun i e1 => List.getElem?_set_ne (fun e => e1 e.symm)
  refine ⟨by rw [k 0 (by omega)]; exact h0, by rw [k 1 (by omega)]; exact h1, by rw [k 19 (by omega)]; exact h2, h3, by rw [k 44 (by omega)]; exact h4, h5, fun i hi => ?_, fun i hi => ?_, fun i hi => ?_⟩
  · rw [k _ (by omega), k _ (by omega)]; exact h6 i hi
  · rw [k _ (by omega), k _ (by omega), k _ (by omega)]; exact h7 i hi
  · by_cases c : i = j
    · subst c
      rw [List.getElem?_set_self (by omega), List.getElem?_set_self (by omega)]
    · rw [k _ (by omega), List.getElem?_set_ne (fun e => c e.symm)]; exact h8 i hi
end
end
section
theorem ki_m1 : Int32.ofInt (-1) = (-1 : Int32) := by decide +kernel
/-! ===== the small readers of the reference; NAMES looked up ===== -/
def pof (pr : List Value) : List Value := .ref 182 :: .ref 183 :: .ref 184 :: .ref 185 :: .ref 186 :: .ref 187 :: .ref 188 :: .ref 189 :: .ref 190 :: .ref 191 :: pr
theorem n_m1 {j : Nat} (h : j < 100000) : ¬ Int32.ofNat j = (-1 : Int32) := fun e => by
  have e := congrArg Int32.toInt e
  rw [n_int (by omega), show (-1 : Int32).toInt = -1 from rfl] at e
  omega
theorem n_z {j : Nat} (h : 1 ≤ j) (h2 : j < 100000) : ¬ Int32.ofNat j = 0 := n_ne (b := 0) (by omega) (by omega) (by decide)
theorem fd_0 {L : List Int64} {w : Int64} {o r i : Nat} (h : L.getD (o + i) 0 = w) : fd L w o (r + 1) i = some i := if_pos h
theorem fd_1 {L : List Int64} {w : Int64} {o r i : Nat} (h : ¬ L.getD (o + i) 0 = w) : fd L w o (r + 1) i = fd L w o r (i + 1) := if_neg h
def dcl3 (P Dn : Nat) (lw cl id : Int32) (gl bo : Nat) : AE := .inr (1, [.int (Int32.ofNat P), .int (Int32.ofNat Dn), .int lw, .int cl, .int id, .int (Int32.ofNat gl), .int (Int32.ofNat bo), .ref 4, .ref 5, .ref 6, .ref 9, .ref 10, .ref 11, .ref 12, .ref 7, .ref 8])
def dcl13 (P Dn : Nat) (lw cl id : Int32) (gl bo : Nat) : AE := .inr (1, [.int (Int32.ofNat P), .int (Int32.ofNat Dn), .int lw, .int cl, .int id, .int (Int32.ofNat gl), .int (Int32.ofNat bo), .ref 14, .ref 15, .ref 16, .ref 19, .ref 20, .ref 21, .ref 22, .ref 17, .ref 18])
theorem x_find4L {H : List AE} (hlen : Nat.ble 204 H.length = true) {arr : List Int64} {wq : Int64} {cnt : Nat} (hc : 0 + cnt ≤ arr.length) (ha : arr.length ≤ 100) {dd : Nat} : ∀ (r i : Nat) (L : List (Nat × Value)), i + r = cnt → ev_g L 0 = some (.ref 4) → ev_g L 1 = some (.int (Int32.ofNat cnt)) → ev_g L 2 = some (.long wq) → ev_g L 4 = some (.int (Int32.ofNat i)) → RT MM dd 66 3 L [] (ov H [(4, lng arr)]) (some (.int (fdI (fd arr wq 0 r i))), ov H [(4, lng arr)]) := by
  intro r
  induction r with
  | zero =>
    intro i L hi l0 l1 l2 l4
    have hi : i = cnt := by omega
    subst hi
    refine rt_il2 rfl l4 ?_
    refine rt_ild rfl l1 ?_
    refine biT_ge rfl (n_le (Nat.le_refl _) (by omega)) ?_
    refine rt_ico rfl ki_m1 ?_
    exact ow_irt rfl rfl rfl
  | succ r ih =>
    intro i L hi l0 l1 l2 l4
    have ez : arr.getD (0 + i) 0 = arr.getD i 0 := by rw [Nat.zero_add]
    by_cases hq : arr.getD i 0 = wq
    · rw [fd_0 (ez.trans hq)]
      refine rt_il2 rfl l4 ?_
      refine rt_ild rfl l1 ?_
      refine biF_ge rfl (n_nle (by omega) (by omega)) ?_
      refine rt_il2 rfl l4 ?_
      refine rt_ald rfl l0 ?_
      refine ow_aln rfl rfl hlen rfl ?_
      refine biF_ge rfl (n_nle (by omega) (by omega)) ?_
      refine rt_ald rfl l0 ?_
      refine rt_il2 rfl l4 ?_
      refine ow_lalN rfl rfl (gDy (i := i) (by omega)) (by omega) hlen rfl ?_
      refine rt_lld rfl l2 ?_
      refine ba_lcmp rfl ?_
      refine bcT_ne rfl (lg_0 hq) ?_
      refine rt_il2 rfl l4 ?_
      exact ow_irt rfl rfl rfl
    · rw [fd_1 (fun e => hq (ez.symm.trans e))]
      refine rt_il2 rfl l4 ?_
      refine rt_ild rfl l1 ?_
      refine biF_ge rfl (n_nle (by omega) (by omega)) ?_
      refine rt_il2 rfl l4 ?_
      refine rt_ald rfl l0 ?_
      refine ow_aln rfl rfl hlen rfl ?_
      refine biF_ge rfl (n_nle (by omega) (by omega)) ?_
      refine rt_ald rfl l0 ?_
      refine rt_il2 rfl l4 ?_
      refine ow_lalN rfl rfl (gDy (i := i) (by omega)) (by omega) hlen rfl ?_
      refine rt_lld rfl l2 ?_
      refine ba_lcmp rfl ?_
      refine bcF_ne rfl (lg_1 hq) ?_
      refine rt_inc rfl l4 (by decide +kernel) ?_
      rw [in_1]
      refine RT_step (pc2 := 3) rfl (fun _ _ => rfl) ?_
      exact ih (i + 1) _ (by omega) (gs_o rfl l0 rfl) (gs_o rfl l1 rfl) (gs_o2 rfl rfl l2) gs_n
theorem x_find4 {H : List AE} (hlen : Nat.ble 204 H.length = true) {arr : List Int64} {wq : Int64} {cnt : Nat} (h1 : H[4]? = some (lng arr)) (hc : 0 + cnt ≤ arr.length) (ha : arr.length ≤ 100) : FR 1 66 [.ref 4, .int (Int32.ofNat cnt), .long wq] H (some (.int (fdI (fd arr wq 0 cnt 0))), ov H []) := by
  refine FR_ov (l := [(4, lng arr)]) (l2 := [(4, lng arr)]) (ov_c1 h1) rfl (ov_c1 h1) ?_
  refine rt_ico rfl ki_0 ?_
  refine RT_step (pc2 := 3) rfl (fun _ _ => rfl) ?_
  exact x_find4L hlen hc ha cnt 0 _ (by omega) rfl rfl rfl rfl
theorem x_find9L {H : List AE} (hlen : Nat.ble 204 H.length = true) {arr : List Int64} {wq : Int64} {cnt : Nat} (hc : 0 + cnt ≤ arr.length) (ha : arr.length ≤ 100) {dd : Nat} : ∀ (r i : Nat) (L : List (Nat × Value)), i + r = cnt → ev_g L 0 = some (.ref 9) → ev_g L 1 = some (.int (Int32.ofNat cnt)) → ev_g L 2 = some (.long wq) → ev_g L 4 = some (.int (Int32.ofNat i)) → RT MM dd 66 3 L [] (ov H [(9, lng arr)]) (some (.int (fdI (fd arr wq 0 r i))), ov H [(9, lng arr)]) := by
  intro r
  induction r with
  | zero =>
    intro i L hi l0 l1 l2 l4
    have hi : i = cnt := by omega
    subst hi
    refine rt_il2 rfl l4 ?_
    refine rt_ild rfl l1 ?_
    refine biT_ge rfl (n_le (Nat.le_refl _) (by omega)) ?_
    refine rt_ico rfl ki_m1 ?_
    exact ow_irt rfl rfl rfl
  | succ r ih =>
    intro i L hi l0 l1 l2 l4
    have ez : arr.getD (0 + i) 0 = arr.getD i 0 := by rw [Nat.zero_add]
    by_cases hq : arr.getD i 0 = wq
    · rw [fd_0 (ez.trans hq)]
      refine rt_il2 rfl l4 ?_
      refine rt_ild rfl l1 ?_
      refine biF_ge rfl (n_nle (by omega) (by omega)) ?_
      refine rt_il2 rfl l4 ?_
      refine rt_ald rfl l0 ?_
      refine ow_aln rfl rfl hlen rfl ?_
      refine biF_ge rfl (n_nle (by omega) (by omega)) ?_
      refine rt_ald rfl l0 ?_
      refine rt_il2 rfl l4 ?_
      refine ow_lalN rfl rfl (gDy (i := i) (by omega)) (by omega) hlen rfl ?_
      refine rt_lld rfl l2 ?_
      refine ba_lcmp rfl ?_
      refine bcT_ne rfl (lg_0 hq) ?_
      refine rt_il2 rfl l4 ?_
      exact ow_irt rfl rfl rfl
    · rw [fd_1 (fun e => hq (ez.symm.trans e))]
      refine rt_il2 rfl l4 ?_
      refine rt_ild rfl l1 ?_
      refine biF_ge rfl (n_nle (by omega) (by omega)) ?_
      refine rt_il2 rfl l4 ?_
      refine rt_ald rfl l0 ?_
      refine ow_aln rfl rfl hlen rfl ?_
      refine biF_ge rfl (n_nle (by omega) (by omega)) ?_
      refine rt_ald rfl l0 ?_
      refine rt_il2 rfl l4 ?_
      refine ow_lalN rfl rfl (gDy (i := i) (by omega)) (by omega) hlen rfl ?_
      refine rt_lld rfl l2 ?_
      refine ba_lcmp rfl ?_
      refine bcF_ne rfl (lg_1 hq) ?_
      refine rt_inc rfl l4 (by decide +kernel) ?_
      rw [in_1]
      refine RT_step (pc2 := 3) rfl (fun _ _ => rfl) ?_
      exact ih (i + 1) _ (by omega) (gs_o rfl l0 rfl) (gs_o rfl l1 rfl) (gs_o2 rfl rfl l2) gs_n
theorem x_find9 {H : List AE} (hlen : Nat.ble 204 H.length = true) {arr : List Int64} {wq : Int64} {cnt : Nat} (h1 : H[9]? = some (lng arr)) (hc : 0 + cnt ≤ arr.length) (ha : arr.length ≤ 100) : FR 1 66 [.ref 9, .int (Int32.ofNat cnt), .long wq] H (some (.int (fdI (fd arr wq 0 cnt 0))), ov H []) := by
  refine FR_ov (l := [(9, lng arr)]) (l2 := [(9, lng arr)]) (ov_c1 h1) rfl (ov_c1 h1) ?_
  refine rt_ico rfl ki_0 ?_
  refine RT_step (pc2 := 3) rfl (fun _ _ => rfl) ?_
  exact x_find9L hlen hc ha cnt 0 _ (by omega) rfl rfl rfl rfl
theorem x_find14L {H : List AE} (hlen : Nat.ble 204 H.length = true) {arr : List Int64} {wq : Int64} {cnt : Nat} (hc : 0 + cnt ≤ arr.length) (ha : arr.length ≤ 100) {dd : Nat} : ∀ (r i : Nat) (L : List (Nat × Value)), i + r = cnt → ev_g L 0 = some (.ref 14) → ev_g L 1 = some (.int (Int32.ofNat cnt)) → ev_g L 2 = some (.long wq) → ev_g L 4 = some (.int (Int32.ofNat i)) → RT MM dd 66 3 L [] (ov H [(14, lng arr)]) (some (.int (fdI (fd arr wq 0 r i))), ov H [(14, lng arr)]) := by
  intro r
  induction r with
  | zero =>
    intro i L hi l0 l1 l2 l4
    have hi : i = cnt := by omega
    subst hi
    refine rt_il2 rfl l4 ?_
    refine rt_ild rfl l1 ?_
    refine biT_ge rfl (n_le (Nat.le_refl _) (by omega)) ?_
    refine rt_ico rfl ki_m1 ?_
    exact ow_irt rfl rfl rfl
  | succ r ih =>
    intro i L hi l0 l1 l2 l4
    have ez : arr.getD (0 + i) 0 = arr.getD i 0 := by rw [Nat.zero_add]
    by_cases hq : arr.getD i 0 = wq
    · rw [fd_0 (ez.trans hq)]
      refine rt_il2 rfl l4 ?_
      refine rt_ild rfl l1 ?_
      refine biF_ge rfl (n_nle (by omega) (by omega)) ?_
      refine rt_il2 rfl l4 ?_
      refine rt_ald rfl l0 ?_
      refine ow_aln rfl rfl hlen rfl ?_
      refine biF_ge rfl (n_nle (by omega) (by omega)) ?_
      refine rt_ald rfl l0 ?_
      refine rt_il2 rfl l4 ?_
      refine ow_lalN rfl rfl (gDy (i := i) (by omega)) (by omega) hlen rfl ?_
      refine rt_lld rfl l2 ?_
      refine ba_lcmp rfl ?_
      refine bcT_ne rfl (lg_0 hq) ?_
      refine rt_il2 rfl l4 ?_
      exact ow_irt rfl rfl rfl
    · rw [fd_1 (fun e => hq (ez.symm.trans e))]
      refine rt_il2 rfl l4 ?_
      refine rt_ild rfl l1 ?_
      refine biF_ge rfl (n_nle (by omega) (by omega)) ?_
      refine rt_il2 rfl l4 ?_
      refine rt_ald rfl l0 ?_
      refine ow_aln rfl rfl hlen rfl ?_
      refine biF_ge rfl (n_nle (by omega) (by omega)) ?_
      refine rt_ald rfl l0 ?_
      refine rt_il2 rfl l4 ?_
      refine ow_lalN rfl rfl (gDy (i := i) (by omega)) (by omega) hlen rfl ?_
      refine rt_lld rfl l2 ?_
      refine ba_lcmp rfl ?_
      refine bcF_ne rfl (lg_1 hq) ?_
      refine rt_inc rfl l4 (by decide +kernel) ?_
      rw [in_1]
      refine RT_step (pc2 := 3) rfl (fun _ _ => rfl) ?_
      exact ih (i + 1) _ (by omega) (gs_o rfl l0 rfl) (gs_o rfl l1 rfl) (gs_o2 rfl rfl l2) gs_n
theorem x_find14 {H : List AE} (hlen : Nat.ble 204 H.length = true) {arr : List Int64} {wq : Int64} {cnt : Nat} (h1 : H[14]? = some (lng arr)) (hc : 0 + cnt ≤ arr.length) (ha : arr.length ≤ 100) : FR 1 66 [.ref 14, .int (Int32.ofNat cnt), .long wq] H (some (.int (fdI (fd arr wq 0 cnt 0))), ov H []) := by
  refine FR_ov (l := [(14, lng arr)]) (l2 := [(14, lng arr)]) (ov_c1 h1) rfl (ov_c1 h1) ?_
  refine rt_ico rfl ki_0 ?_
  refine RT_step (pc2 := 3) rfl (fun _ _ => rfl) ?_
  exact x_find14L hlen hc ha cnt 0 _ (by omega) rfl rfl rfl rfl
theorem x_find19L {H : List AE} (hlen : Nat.ble 204 H.length = true) {arr : List Int64} {wq : Int64} {cnt : Nat} (hc : 0 + cnt ≤ arr.length) (ha : arr.length ≤ 100) {dd : Nat} : ∀ (r i : Nat) (L : List (Nat × Value)), i + r = cnt → ev_g L 0 = some (.ref 19) → ev_g L 1 = some (.int (Int32.ofNat cnt)) → ev_g L 2 = some (.long wq) → ev_g L 4 = some (.int (Int32.ofNat i)) → RT MM dd 66 3 L [] (ov H [(19, lng arr)]) (some (.int (fdI (fd arr wq 0 r i))), ov H [(19, lng arr)]) := by
  intro r
  induction r with
  | zero =>
    intro i L hi l0 l1 l2 l4
    have hi : i = cnt := by omega
    subst hi
    refine rt_il2 rfl l4 ?_
    refine rt_ild rfl l1 ?_
    refine biT_ge rfl (n_le (Nat.le_refl _) (by omega)) ?_
    refine rt_ico rfl ki_m1 ?_
    exact ow_irt rfl rfl rfl
  | succ r ih =>
    intro i L hi l0 l1 l2 l4
    have ez : arr.getD (0 + i) 0 = arr.getD i 0 := by rw [Nat.zero_add]
    by_cases hq : arr.getD i 0 = wq
    · rw [fd_0 (ez.trans hq)]
      refine rt_il2 rfl l4 ?_
      refine rt_ild rfl l1 ?_
      refine biF_ge rfl (n_nle (by omega) (by omega)) ?_
      refine rt_il2 rfl l4 ?_
      refine rt_ald rfl l0 ?_
      refine ow_aln rfl rfl hlen rfl ?_
      refine biF_ge rfl (n_nle (by omega) (by omega)) ?_
      refine rt_ald rfl l0 ?_
      refine rt_il2 rfl l4 ?_
      refine ow_lalN rfl rfl (gDy (i := i) (by omega)) (by omega) hlen rfl ?_
      refine rt_lld rfl l2 ?_
      refine ba_lcmp rfl ?_
      refine bcT_ne rfl (lg_0 hq) ?_
      refine rt_il2 rfl l4 ?_
      exact ow_irt rfl rfl rfl
    · rw [fd_1 (fun e => hq (ez.symm.trans e))]
      refine rt_il2 rfl l4 ?_
      refine rt_ild rfl l1 ?_
      refine biF_ge rfl (n_nle (by omega) (by omega)) ?_
      refine rt_il2 rfl l4 ?_
      refine rt_ald rfl l0 ?_
      refine ow_aln rfl rfl hlen rfl ?_
      refine biF_ge rfl (n_nle (by omega) (by omega)) ?_
      refine rt_ald rfl l0 ?_
      refine rt_il2 rfl l4 ?_
      refine ow_lalN rfl rfl (gDy (i := i) (by omega)) (by omega) hlen rfl ?_
      refine rt_lld rfl l2 ?_
      refine ba_lcmp rfl ?_
      refine bcF_ne rfl (lg_1 hq) ?_
      refine rt_inc rfl l4 (by decide +kernel) ?_
      rw [in_1]
      refine RT_step (pc2 := 3) rfl (fun _ _ => rfl) ?_
      exact ih (i + 1) _ (by omega) (gs_o rfl l0 rfl) (gs_o rfl l1 rfl) (gs_o2 rfl rfl l2) gs_n
theorem x_find19 {H : List AE} (hlen : Nat.ble 204 H.length = true) {arr : List Int64} {wq : Int64} {cnt : Nat} (h1 : H[19]? = some (lng arr)) (hc : 0 + cnt ≤ arr.length) (ha : arr.length ≤ 100) : FR 1 66 [.ref 19, .int (Int32.ofNat cnt), .long wq] H (some (.int (fdI (fd arr wq 0 cnt 0))), ov H []) := by
  refine FR_ov (l := [(19, lng arr)]) (l2 := [(19, lng arr)]) (ov_c1 h1) rfl (ov_c1 h1) ?_
  refine rt_ico rfl ki_0 ?_
  refine RT_step (pc2 := 3) rfl (fun _ _ => rfl) ?_
  exact x_find19L hlen hc ha cnt 0 _ (by omega) rfl rfl rfl rfl
theorem m_findL {H : List AE} (hlen : Nat.ble 204 H.length = true) {arr : List Int64} {wq : Int64} {cnt : Nat} {bs0 : Nat} (hc : bs0 + cnt ≤ arr.length) (ha : arr.length ≤ 100) {dd : Nat} : ∀ (r i : Nat) (L : List (Nat × Value)), i + r = cnt → ev_g L 0 = some (.ref 188) → ev_g L 1 = some (.int (Int32.ofNat bs0)) → ev_g L 2 = some (.int (Int32.ofNat cnt)) → ev_g L 3 = some (.long wq) → ev_g L 5 = some (.int (Int32.ofNat i)) → RT MM dd 200 3 L [] (ov H [(188, lng arr)]) (some (.int (fdI (fd arr wq bs0 r i))), ov H [(188, lng arr)]) := by
  intro r
  induction r with
  | zero =>
    intro i L hi l0 l1 l2 l3 l5
    have hi : i = cnt := by omega
    subst hi
    refine rt_il2 rfl l5 ?_
    refine rt_ild rfl l2 ?_
    refine biT_ge rfl (n_le (Nat.le_refl _) (by omega)) ?_
    refine rt_ico rfl ki_m1 ?_
    exact ow_irt rfl rfl rfl
  | succ r ih =>
    intro i L hi l0 l1 l2 l3 l5
    have ez : arr.getD (bs0 + i) 0 = arr.getD (bs0 + i) 0 := rfl
    by_cases hq : arr.getD (bs0 + i) 0 = wq
    · rw [fd_0 (ez.trans hq)]
      refine rt_il2 rfl l5 ?_
      refine rt_ild rfl l2 ?_
      refine biF_ge rfl (n_nle (by omega) (by omega)) ?_
      refine rt_ald rfl l0 ?_
      refine rt_ild rfl l1 ?_
      refine rt_il2 rfl l5 ?_
      refine ba_iadd rfl ?_
      rw [n_add]
      refine ow_lalN rfl rfl (gDy (i := bs0 + i) (by omega)) (by omega) hlen rfl ?_
      refine rt_lld rfl l3 ?_
      refine ba_lcmp rfl ?_
      refine bcT_ne rfl (lg_0 hq) ?_
      refine rt_il2 rfl l5 ?_
      exact ow_irt rfl rfl rfl
    · rw [fd_1 (fun e => hq (ez.symm.trans e))]
      refine rt_il2 rfl l5 ?_
      refine rt_ild rfl l2 ?_
      refine biF_ge rfl (n_nle (by omega) (by omega)) ?_
      refine rt_ald rfl l0 ?_
      refine rt_ild rfl l1 ?_
      refine rt_il2 rfl l5 ?_
      refine ba_iadd rfl ?_
      rw [n_add]
      refine ow_lalN rfl rfl (gDy (i := bs0 + i) (by omega)) (by omega) hlen rfl ?_
      refine rt_lld rfl l3 ?_
      refine ba_lcmp rfl ?_
      refine bcF_ne rfl (lg_1 hq) ?_
      refine rt_inc rfl l5 (by decide +kernel) ?_
      rw [in_1]
      refine RT_step (pc2 := 3) rfl (fun _ _ => rfl) ?_
      exact ih (i + 1) _ (by omega) (gs_o rfl l0 rfl) (gs_o rfl l1 rfl) (gs_o rfl l2 rfl) (gs_o2 rfl rfl l3) gs_n
theorem m_find {H : List AE} (hlen : Nat.ble 204 H.length = true) {arr : List Int64} {wq : Int64} {cnt : Nat} {bs0 : Nat} (h1 : H[188]? = some (lng arr)) (hc : bs0 + cnt ≤ arr.length) (ha : arr.length ≤ 100) : FR 1 200 [.ref 188, .int (Int32.ofNat bs0), .int (Int32.ofNat cnt), .long wq] H (some (.int (fdI (fd arr wq bs0 cnt 0))), ov H []) := by
  refine FR_ov (l := [(188, lng arr)]) (l2 := [(188, lng arr)]) (ov_c1 h1) rfl (ov_c1 h1) ?_
  refine rt_ico rfl ki_0 ?_
  refine RT_step (pc2 := 3) rfl (fun _ _ => rfl) ?_
  exact m_findL hlen hc ha cnt 0 _ (by omega) rfl rfl rfl rfl rfl
theorem m_first_f {H : List AE} (hlen : Nat.ble 204 H.length = true) {ts : List Int32} {n lim a pl kd : Nat} {nm sg qm td : Int32} {wd : Int64} {pr : List Value} {rd : List Int32} {rn : List Int64} {on : List Int32} {M2 : AE} {j m : Nat} (hj : rd[j]? = some (Int32.ofNat m)) (hj2 : j < 101) (hm : MQt ts 1 174 [.ref 180, .int (Int32.ofNat 4)] (mcl (Int32.ofNat 0) (Int32.ofNat 0) n lim a pl (km kd) nm sg (Int32.ofNat 0) qm wd td (pof pr)) (some (.int (Int32.ofNat 0))) M2) : FR 2 252 [.ref 180, .int (Int32.ofNat j), .int (Int32.ofNat m)] (ov H ((180, mcl (Int32.ofNat 0) (Int32.ofNat 0) n lim a pl (km kd) nm sg (Int32.ofNat 0) qm wd td (pof pr)) :: (181, mtl ts) :: [(183, ia rd), (188, lng rn), (191, zb on)])) (some (.int (Int32.ofNat 0)), ov (ov H ((180, mcl (Int32.ofNat 0) (Int32.ofNat 0) n lim a pl (km kd) nm sg (Int32.ofNat 0) qm wd td (pof pr)) :: (181, mtl ts) :: [(183, ia rd), (188, lng rn), (191, zb on)])) ((180, M2) :: (181, mtl ts) :: [(183, ia rd), (188, lng rn), (191, zb on)])) := by
  refine FR_st rfl rfl ?_
  refine RT_step (pc2 := 1) rfl (fun _ _ => rfl) ?_
  refine ow_gf rfl rfl rfl hlen rfl ?_
  refine RT_step (pc2 := 5) rfl (fun _ _ => rfl) ?_
  refine ow_ialN rfl rfl hj (by omega) hlen rfl ?_
  refine RT_step (pc2 := 7) rfl (fun _ _ => rfl) ?_
  refine biT_ne rfl rfl ?_
  refine RT_step (pc2 := 11) rfl (fun _ _ => rfl) ?_
  refine rt_ico rfl ki_4 ?_
  refine ow_iv1 rfl rfl rfl rfl hlen rfl rfl rfl ((hm _ (ov_hl hlen) (ov_at rfl (ov_lt hlen (by decide))) (ov_at rfl (ov_lt hlen (by decide)))).up (by decide)) rfl ?_
  exact ow_irt rfl rfl rfl
theorem m_first_t {H : List AE} (hlen : Nat.ble 204 H.length = true) {ts : List Int32} {n lim a pl kd : Nat} {nm sg qm td : Int32} {wd : Int64} {pr : List Value} {rd : List Int32} {rn : List Int64} {on : List Int32} {M2 : AE} {j m P : Nat} (hj : rd[j]? = some (Int32.ofNat P)) (hj2 : j < 101) (hP : P ≠ m) (hP1 : P < 100) (hm1 : m < 100) (hm : MQt ts 2 205 [.ref 180] (mcl (Int32.ofNat 0) (Int32.ofNat 0) n lim a pl (km kd) nm sg (Int32.ofNat 0) qm wd td (pof pr)) none M2) : FR 3 252 [.ref 180, .int (Int32.ofNat j), .int (Int32.ofNat m)] (ov H ((180, mcl (Int32.ofNat 0) (Int32.ofNat 0) n lim a pl (km kd) nm sg (Int32.ofNat 0) qm wd td (pof pr)) :: (181, mtl ts) :: [(183, ia rd), (188, lng rn), (191, zb on)])) (some (.int (Int32.ofNat 1)), ov (ov H ((180, mcl (Int32.ofNat 0) (Int32.ofNat 0) n lim a pl (km kd) nm sg (Int32.ofNat 0) qm wd td (pof pr)) :: (181, mtl ts) :: [(183, ia rd), (188, lng rn), (191, zb on)])) ((180, M2) :: (181, mtl ts) :: [(183, ia rd), (188, lng rn), (191, zb on)])) := by
  refine FR_st rfl rfl ?_
  refine RT_step (pc2 := 1) rfl (fun _ _ => rfl) ?_
  refine ow_gf rfl rfl rfl hlen rfl ?_
  refine RT_step (pc2 := 5) rfl (fun _ _ => rfl) ?_
  refine ow_ialN rfl rfl hj (by omega) hlen rfl ?_
  refine RT_step (pc2 := 7) rfl (fun _ _ => rfl) ?_
  refine biF_ne rfl (n_ne hP (by omega) (by omega)) ?_
  refine RT_step (pc2 := 17) rfl (fun _ _ => rfl) ?_
  refine ow_iv0 rfl rfl rfl rfl hlen rfl rfl rfl ((hm _ (ov_hl hlen) (ov_at rfl (ov_lt hlen (by decide))) (ov_at rfl (ov_lt hlen (by decide)))).up (by decide)) rfl ?_
  refine rt_ico rfl ki_1 ?_
  exact ow_irt rfl rfl rfl
theorem m_new_1 {H : List AE} (hlen : Nat.ble 204 H.length = true) {ts : List Int32} {n lim a pl kd : Nat} {nm sg qm td : Int32} {wd : Int64} {pr : List Value} {rd : List Int32} {rn : List Int64} {on : List Int32} {M2 : AE} {s : Nat} (hk : km kd < 10) (h : (Nat.beq (km kd) 2 && nmB wd 30 0) = false) (hm : MQt ts 1 174 [.ref 180, .int (Int32.ofNat 1)] (mcl (Int32.ofNat 0) (Int32.ofNat 0) n lim a pl (km kd) nm sg (Int32.ofNat 0) qm wd td (pof pr)) (some (.int (Int32.ofNat 0))) M2) : FR 4 258 [.ref 180, .int (Int32.ofNat s)] (ov H ((180, mcl (Int32.ofNat 0) (Int32.ofNat 0) n lim a pl (km kd) nm sg (Int32.ofNat 0) qm wd td (pof pr)) :: (181, mtl ts) :: [(183, ia rd), (188, lng rn), (191, zb on)])) (some (.int (Int32.ofNat 0)), ov (ov H ((180, mcl (Int32.ofNat 0) (Int32.ofNat 0) n lim a pl (km kd) nm sg (Int32.ofNat 0) qm wd td (pof pr)) :: (181, mtl ts) :: [(183, ia rd), (188, lng rn), (191, zb on)])) ((180, M2) :: (181, mtl ts) :: [(183, ia rd), (188, lng rn), (191, zb on)])) := by
  refine FR_st rfl rfl ?_
  refine RT_step (pc2 := 1) rfl (fun _ _ => rfl) ?_
  refine ow_iv1 rfl rfl rfl rfl hlen rfl rfl rfl ((m_isName (ov_hl hlen) (ov_at rfl (ov_lt hlen (by decide))) hk).up (by decide)) rfl ?_
  refine bcT_ne rfl (b01_f h) ?_
  refine RT_step (pc2 := 8) rfl (fun _ _ => rfl) ?_
  refine rt_ico rfl ki_1 ?_
  refine ow_iv1 rfl rfl rfl rfl hlen rfl rfl rfl ((hm _ (ov_hl hlen) (ov_at rfl (ov_lt hlen (by decide))) (ov_at rfl (ov_lt hlen (by decide)))).up (by decide)) rfl ?_
  exact ow_irt rfl rfl rfl
theorem m_new_3 {H : List AE} (hlen : Nat.ble 204 H.length = true) {ts : List Int32} {n lim a pl kd : Nat} {nm sg qm td : Int32} {wd : Int64} {pr : List Value} {rd : List Int32} {rn : List Int64} {on : List Int32} {M2 : AE} {s j : Nat} (hk : km kd < 10) (h : (Nat.beq (km kd) 2 && nmB wd 30 0) = true) {P Dn : Nat} (r0 : rd[0]? = some (Int32.ofNat P)) (r1 : rd[1]? = some (Int32.ofNat Dn)) (hP : P ≤ 7) (hD : Dn ≤ 8) (ln : rn.length = 15) (hf : fd rn wd 0 P 0 = some j) (hj : j < 100) (hm : MQt ts 1 174 [.ref 180, .int (Int32.ofNat 3)] (mcl (Int32.ofNat 0) (Int32.ofNat 0) n lim a pl (km kd) nm sg (Int32.ofNat 0) qm wd td (pof pr)) (some (.int (Int32.ofNat 0))) M2) : FR 4 258 [.ref 180, .int (Int32.ofNat s)] (ov H ((180, mcl (Int32.ofNat 0) (Int32.ofNat 0) n lim a pl (km kd) nm sg (Int32.ofNat 0) qm wd td (pof pr)) :: (181, mtl ts) :: [(183, ia rd), (188, lng rn), (191, zb on)])) (some (.int (Int32.ofNat 0)), ov (ov H ((180, mcl (Int32.ofNat 0) (Int32.ofNat 0) n lim a pl (km kd) nm sg (Int32.ofNat 0) qm wd td (pof pr)) :: (181, mtl ts) :: [(183, ia rd), (188, lng rn), (191, zb on)])) ((180, M2) :: (181, mtl ts) :: [(183, ia rd), (188, lng rn), (191, zb on)])) := by
  refine FR_st rfl rfl ?_
  refine RT_step (pc2 := 1) rfl (fun _ _ => rfl) ?_
  refine ow_iv1 rfl rfl rfl rfl hlen rfl rfl rfl ((m_isName (ov_hl hlen) (ov_at rfl (ov_lt hlen (by decide))) hk).up (by decide)) rfl ?_
  refine bcF_ne rfl (b01_t h) ?_
  refine RT_step (pc2 := 14) rfl (fun _ _ => rfl) ?_
  refine ow_gf rfl rfl rfl hlen rfl ?_
  refine rt_ico rfl ki_0 ?_
  refine RT_step (pc2 := 19) rfl (fun _ _ => rfl) ?_
  refine ow_gf rfl rfl rfl hlen rfl ?_
  refine rt_ico rfl ki_0 ?_
  refine ow_ialN rfl rfl r0 (by omega) hlen rfl ?_
  refine RT_step (pc2 := 25) rfl (fun _ _ => rfl) ?_
  refine ow_gf rfl rfl rfl hlen rfl ?_
  refine ow_is1 rfl rfl rfl rfl rfl ((m_find (bs0 := 0) (cnt := P) (ov_hl hlen) (ov_at rfl (ov_lt hlen (by decide))) (by omega) (by omega)).up (by decide)) rfl ?_
  refine rt_ico rfl ki_m1 ?_
  refine biF_ne rfl (fdI_s hf hj) ?_
  refine RT_step (pc2 := 59) rfl (fun _ _ => rfl) ?_
  refine rt_ico rfl ki_3 ?_
  refine ow_iv1 rfl rfl rfl rfl hlen rfl rfl rfl ((hm _ (ov_hl hlen) (ov_at rfl (ov_lt hlen (by decide))) (ov_at rfl (ov_lt hlen (by decide)))).up (by decide)) rfl ?_
  exact ow_irt rfl rfl rfl
theorem m_new_4 {H : List AE} (hlen : Nat.ble 204 H.length = true) {ts : List Int32} {n lim a pl kd : Nat} {nm sg qm td : Int32} {wd : Int64} {pr : List Value} {rd : List Int32} {rn : List Int64} {on : List Int32} {M2 : AE} {s j : Nat} (hk : km kd < 10) (h : (Nat.beq (km kd) 2 && nmB wd 30 0) = true) {P Dn : Nat} (r0 : rd[0]? = some (Int32.ofNat P)) (r1 : rd[1]? = some (Int32.ofNat Dn)) (hP : P ≤ 7) (hD : Dn ≤ 8) (ln : rn.length = 15) (hf : fd rn wd 0 P 0 = none) (hg : fd rn wd 7 Dn 0 = some j) (hj : j < 100) (hm : MQt ts 1 174 [.ref 180, .int (Int32.ofNat 3)] (mcl (Int32.ofNat 0) (Int32.ofNat 0) n lim a pl (km kd) nm sg (Int32.ofNat 0) qm wd td (pof pr)) (some (.int (Int32.ofNat 0))) M2) : FR 4 258 [.ref 180, .int (Int32.ofNat s)] (ov H ((180, mcl (Int32.ofNat 0) (Int32.ofNat 0) n lim a pl (km kd) nm sg (Int32.ofNat 0) qm wd td (pof pr)) :: (181, mtl ts) :: [(183, ia rd), (188, lng rn), (191, zb on)])) (some (.int (Int32.ofNat 0)), ov (ov H ((180, mcl (Int32.ofNat 0) (Int32.ofNat 0) n lim a pl (km kd) nm sg (Int32.ofNat 0) qm wd td (pof pr)) :: (181, mtl ts) :: [(183, ia rd), (188, lng rn), (191, zb on)])) ((180, M2) :: (181, mtl ts) :: [(183, ia rd), (188, lng rn), (191, zb on)])) := by
  refine FR_st rfl rfl ?_
  refine RT_step (pc2 := 1) rfl (fun _ _ => rfl) ?_
  refine ow_iv1 rfl rfl rfl rfl hlen rfl rfl rfl ((m_isName (ov_hl hlen) (ov_at rfl (ov_lt hlen (by decide))) hk).up (by decide)) rfl ?_
  refine bcF_ne rfl (b01_t h) ?_
  refine RT_step (pc2 := 14) rfl (fun _ _ => rfl) ?_
  refine ow_gf rfl rfl rfl hlen rfl ?_
  refine rt_ico rfl ki_0 ?_
  refine RT_step (pc2 := 19) rfl (fun _ _ => rfl) ?_
  refine ow_gf rfl rfl rfl hlen rfl ?_
  refine rt_ico rfl ki_0 ?_
  refine ow_ialN rfl rfl r0 (by omega) hlen rfl ?_
  refine RT_step (pc2 := 25) rfl (fun _ _ => rfl) ?_
  refine ow_gf rfl rfl rfl hlen rfl ?_
  refine ow_is1 rfl rfl rfl rfl rfl ((m_find (bs0 := 0) (cnt := P) (ov_hl hlen) (ov_at rfl (ov_lt hlen (by decide))) (by omega) (by omega)).up (by decide)) rfl ?_
  refine rt_ico rfl ki_m1 ?_
  refine biT_ne rfl (fdI_n hf) ?_
  refine RT_step (pc2 := 36) rfl (fun _ _ => rfl) ?_
  refine ow_gf rfl rfl rfl hlen rfl ?_
  refine rt_bip rfl k8_7 ?_
  refine RT_step (pc2 := 42) rfl (fun _ _ => rfl) ?_
  refine ow_gf rfl rfl rfl hlen rfl ?_
  refine rt_ico rfl ki_1 ?_
  refine ow_ialN rfl rfl r1 (by omega) hlen rfl ?_
  refine RT_step (pc2 := 48) rfl (fun _ _ => rfl) ?_
  refine ow_gf rfl rfl rfl hlen rfl ?_
  refine ow_is1 rfl rfl rfl rfl rfl ((m_find (bs0 := 7) (cnt := Dn) (ov_hl hlen) (ov_at rfl (ov_lt hlen (by decide))) (by omega) (by omega)).up (by decide)) rfl ?_
  refine rt_ico rfl ki_m1 ?_
  refine biF_eq rfl (fdI_s hg hj) ?_
  refine RT_step (pc2 := 59) rfl (fun _ _ => rfl) ?_
  refine rt_ico rfl ki_3 ?_
  refine ow_iv1 rfl rfl rfl rfl hlen rfl rfl rfl ((hm _ (ov_hl hlen) (ov_at rfl (ov_lt hlen (by decide))) (ov_at rfl (ov_lt hlen (by decide)))).up (by decide)) rfl ?_
  exact ow_irt rfl rfl rfl
theorem m_new_t {H : List AE} (hlen : Nat.ble 204 H.length = true) {ts : List Int32} {n lim a pl kd : Nat} {nm sg qm td : Int32} {wd : Int64} {pr : List Value} {rd : List Int32} {rn : List Int64} {on : List Int32} {M2 : AE} {s : Nat} (hk : km kd < 10) (h : (Nat.beq (km kd) 2 && nmB wd 30 0) = true) {P Dn : Nat} (r0 : rd[0]? = some (Int32.ofNat P)) (r1 : rd[1]? = some (Int32.ofNat Dn)) (hP : P ≤ 7) (hD : Dn ≤ 8) (ln : rn.length = 15) (hf : fd rn wd 0 P 0 = none) (hg : fd rn wd 7 Dn 0 = none) (hs : s < 15) (hm : MQt ts 2 205 [.ref 180] (mcl (Int32.ofNat 0) (Int32.ofNat 0) n lim a pl (km kd) nm sg (Int32.ofNat 0) qm wd td (pof pr)) none M2) : FR 4 258 [.ref 180, .int (Int32.ofNat s)] (ov H ((180, mcl (Int32.ofNat 0) (Int32.ofNat 0) n lim a pl (km kd) nm sg (Int32.ofNat 0) qm wd td (pof pr)) :: (181, mtl ts) :: [(183, ia rd), (188, lng rn), (191, zb on)])) (some (.int (Int32.ofNat 1)), ov (ov H ((180, mcl (Int32.ofNat 0) (Int32.ofNat 0) n lim a pl (km kd) nm sg (Int32.ofNat 0) qm wd td (pof pr)) :: (181, mtl ts) :: [(183, ia rd), (188, lng rn), (191, zb on)])) ((180, M2) :: (181, mtl ts) :: [(183, ia rd), (188, lng (rn.set s wd)), (191, zb on)])) := by
  refine FR_st rfl rfl ?_
  refine RT_step (pc2 := 1) rfl (fun _ _ => rfl) ?_
  refine ow_iv1 rfl rfl rfl rfl hlen rfl rfl rfl ((m_isName (ov_hl hlen) (ov_at rfl (ov_lt hlen (by decide))) hk).up (by decide)) rfl ?_
  refine bcF_ne rfl (b01_t h) ?_
  refine RT_step (pc2 := 14) rfl (fun _ _ => rfl) ?_
  refine ow_gf rfl rfl rfl hlen rfl ?_
  refine rt_ico rfl ki_0 ?_
  refine RT_step (pc2 := 19) rfl (fun _ _ => rfl) ?_
  refine ow_gf rfl rfl rfl hlen rfl ?_
  refine rt_ico rfl ki_0 ?_
  refine ow_ialN rfl rfl r0 (by omega) hlen rfl ?_
  refine RT_step (pc2 := 25) rfl (fun _ _ => rfl) ?_
  refine ow_gf rfl rfl rfl hlen rfl ?_
  refine ow_is1 rfl rfl rfl rfl rfl ((m_find (bs0 := 0) (cnt := P) (ov_hl hlen) (ov_at rfl (ov_lt hlen (by decide))) (by omega) (by omega)).up (by decide)) rfl ?_
  refine rt_ico rfl ki_m1 ?_
  refine biT_ne rfl (fdI_n hf) ?_
  refine RT_step (pc2 := 36) rfl (fun _ _ => rfl) ?_
  refine ow_gf rfl rfl rfl hlen rfl ?_
  refine rt_bip rfl k8_7 ?_
  refine RT_step (pc2 := 42) rfl (fun _ _ => rfl) ?_
  refine ow_gf rfl rfl rfl hlen rfl ?_
  refine rt_ico rfl ki_1 ?_
  refine ow_ialN rfl rfl r1 (by omega) hlen rfl ?_
  refine RT_step (pc2 := 48) rfl (fun _ _ => rfl) ?_
  refine ow_gf rfl rfl rfl hlen rfl ?_
  refine ow_is1 rfl rfl rfl rfl rfl ((m_find (bs0 := 7) (cnt := Dn) (ov_hl hlen) (ov_at rfl (ov_lt hlen (by decide))) (by omega) (by omega)).up (by decide)) rfl ?_
  refine rt_ico rfl ki_m1 ?_
  refine biT_eq rfl (fdI_n hg) ?_
  refine RT_step (pc2 := 65) rfl (fun _ _ => rfl) ?_
  refine ow_gf rfl rfl rfl hlen rfl ?_
  refine RT_step (pc2 := 69) rfl (fun _ _ => rfl) ?_
  refine RT_step (pc2 := 70) rfl (fun _ _ => rfl) ?_
  refine ow_gf rfl rfl rfl hlen rfl ?_
  refine ow_lasN rfl rfl (by omega) (by omega) hlen rfl rfl ?_
  refine RT_step (pc2 := 75) rfl (fun _ _ => rfl) ?_
  refine ow_iv0 rfl rfl rfl rfl hlen rfl rfl rfl ((hm _ (ov_hl hlen) (ov_at rfl (ov_lt hlen (by decide))) (ov_at rfl (ov_lt hlen (by decide)))).up (by decide)) rfl ?_
  refine rt_ico rfl ki_1 ?_
  exact ow_irt rfl rfl rfl
theorem m_put_t {H : List AE} (hlen : Nat.ble 204 H.length = true) {ts : List Int32} {n lim a pl kd : Nat} {nm sg qm td : Int32} {wd : Int64} {pr : List Value} {rd : List Int32} {rn : List Int64} {on : List Int32} {j : Nat} (hj : j < rd.length) (hj2 : j < 101) : FR 1 244 [.ref 180, .int (Int32.ofNat j), .int (Int32.ofNat 1)] (ov H ((180, mcl (Int32.ofNat 0) (Int32.ofNat 0) n lim a pl (km kd) nm sg (Int32.ofNat 0) qm wd td (pof pr)) :: (181, mtl ts) :: [(183, ia rd), (188, lng rn), (191, zb on)])) (some (.int (Int32.ofNat 1)), ov (ov H ((180, mcl (Int32.ofNat 0) (Int32.ofNat 0) n lim a pl (km kd) nm sg (Int32.ofNat 0) qm wd td (pof pr)) :: (181, mtl ts) :: [(183, ia rd), (188, lng rn), (191, zb on)])) ((180, mcl (Int32.ofNat 0) (Int32.ofNat 0) n lim a pl (km kd) nm sg (Int32.ofNat 0) qm wd td (pof pr)) :: (181, mtl ts) :: [(183, ia (rd.set j td)), (188, lng rn), (191, zb on)])) := by
  refine FR_st rfl rfl ?_
  refine RT_step (pc2 := 1) rfl (fun _ _ => rfl) ?_
  refine bcF_eq rfl (by decide) ?_
  refine RT_step (pc2 := 5) rfl (fun _ _ => rfl) ?_
  refine ow_gf rfl rfl rfl hlen rfl ?_
  refine RT_step (pc2 := 9) rfl (fun _ _ => rfl) ?_
  refine RT_step (pc2 := 10) rfl (fun _ _ => rfl) ?_
  refine ow_gf rfl rfl rfl hlen rfl ?_
  refine ow_iasN rfl rfl hj (by omega) hlen rfl rfl ?_
  refine RT_step (pc2 := 15) rfl (fun _ _ => rfl) ?_
  exact ow_irt rfl rfl rfl
theorem m_put_f {H : List AE} {ts : List Int32} {M : AE} {rd : List Int32} {rn : List Int64} {on : List Int32} {j : Nat} : FR 1 244 [.ref 180, .int (Int32.ofNat j), .int (Int32.ofNat 0)] (ov H ((180, M) :: (181, mtl ts) :: [(183, ia rd), (188, lng rn), (191, zb on)])) (some (.int (Int32.ofNat 0)), ov (ov H ((180, M) :: (181, mtl ts) :: [(183, ia rd), (188, lng rn), (191, zb on)])) ((180, M) :: (181, mtl ts) :: [(183, ia rd), (188, lng rn), (191, zb on)])) := by
  refine FR_st rfl rfl ?_
  refine RT_step (pc2 := 1) rfl (fun _ _ => rfl) ?_
  refine bcT_eq rfl rfl ?_
  refine RT_step (pc2 := 15) rfl (fun _ _ => rfl) ?_
  exact ow_irt rfl rfl rfl
theorem m_flag_f {H : List AE} (hlen : Nat.ble 204 H.length = true) {ts : List Int32} {n lim a pl kd : Nat} {nm sg qm td : Int32} {wd : Int64} {pr : List Value} {rd : List Int32} {rn : List Int64} {on : List Int32} {wj row kk : Nat} (hk : km kd < 10) (hw : wj < 30) (h : isW (km kd) wd wj = false) : FR 4 253 [.ref 180, .int (Int32.ofNat wj), .int (Int32.ofNat row), .int (Int32.ofNat kk)] (ov H ((180, mcl (Int32.ofNat 0) (Int32.ofNat 0) n lim a pl (km kd) nm sg (Int32.ofNat 0) qm wd td (pof pr)) :: (181, mtl ts) :: [(183, ia rd), (188, lng rn), (191, zb on)])) (none, ov (ov H ((180, mcl (Int32.ofNat 0) (Int32.ofNat 0) n lim a pl (km kd) nm sg (Int32.ofNat 0) qm wd td (pof pr)) :: (181, mtl ts) :: [(183, ia rd), (188, lng rn), (191, zb on)])) ((180, mcl (Int32.ofNat 0) (Int32.ofNat 0) n lim a pl (km kd) nm sg (Int32.ofNat 0) qm wd td (pof pr)) :: (181, mtl ts) :: [(183, ia rd), (188, lng rn), (191, zb on)])) := by
  refine FR_st rfl rfl ?_
  refine RT_step (pc2 := 1) rfl (fun _ _ => rfl) ?_
  refine RT_step (pc2 := 2) rfl (fun _ _ => rfl) ?_
  refine ow_iv1 rfl rfl rfl rfl hlen rfl rfl rfl ((m_isWord (ov_hl hlen) (ov_at rfl (ov_lt hlen (by decide))) hk (by omega)).up (by decide)) rfl ?_
  refine bcT_ne rfl (b01_f h) ?_
  exact ow_ret rfl rfl rfl
theorem m_flag_t {H : List AE} (hlen : Nat.ble 204 H.length = true) {ts : List Int32} {n lim a pl kd : Nat} {nm sg qm td : Int32} {wd : Int64} {pr : List Value} {rd : List Int32} {rn : List Int64} {on : List Int32} {M2 : AE} {wj row kk : Nat} (hk : km kd < 10) (hw : wj < 30) (h : isW (km kd) wd wj = true) {xv : Nat} (hr : rd[row]? = some (Int32.ofNat xv)) (hr2 : row < 101) (lr : rd.length = 101) (hx : xv < 256) (hkk : kk < 8) (hm : MQt ts 2 205 [.ref 180] (mcl (Int32.ofNat 0) (Int32.ofNat 0) n lim a pl (km kd) nm sg (Int32.ofNat 0) qm wd td (pof pr)) none M2) : FR 4 253 [.ref 180, .int (Int32.ofNat wj), .int (Int32.ofNat row), .int (Int32.ofNat kk)] (ov H ((180, mcl (Int32.ofNat 0) (Int32.ofNat 0) n lim a pl (km kd) nm sg (Int32.ofNat 0) qm wd td (pof pr)) :: (181, mtl ts) :: [(183, ia rd), (188, lng rn), (191, zb on)])) (none, ov (ov H ((180, mcl (Int32.ofNat 0) (Int32.ofNat 0) n lim a pl (km kd) nm sg (Int32.ofNat 0) qm wd td (pof pr)) :: (181, mtl ts) :: [(183, ia rd), (188, lng rn), (191, zb on)])) ((180, M2) :: (181, mtl ts) :: [(183, ia (rd.set row (Int32.ofNat (xv ||| 2 ^ kk)))), (188, lng rn), (191, zb on)])) := by
  refine FR_st rfl rfl ?_
  refine RT_step (pc2 := 1) rfl (fun _ _ => rfl) ?_
  refine RT_step (pc2 := 2) rfl (fun _ _ => rfl) ?_
  refine ow_iv1 rfl rfl rfl rfl hlen rfl rfl rfl ((m_isWord (ov_hl hlen) (ov_at rfl (ov_lt hlen (by decide))) hk (by omega)).up (by decide)) rfl ?_
  refine bcF_ne rfl (b01_t h) ?_
  refine RT_step (pc2 := 10) rfl (fun _ _ => rfl) ?_
  refine ow_gf rfl rfl rfl hlen rfl ?_
  refine RT_step (pc2 := 14) rfl (fun _ _ => rfl) ?_
  refine RT_step (pc2 := 15) rfl (fun _ _ => rfl) ?_
  refine ow_ialN rfl rfl hr (by omega) hlen rfl ?_
  refine rt_ico rfl ki_1 ?_
  refine RT_step (pc2 := 18) rfl (fun _ _ => rfl) ?_
  refine ba_ishl rfl ?_
  refine ba_ior rfl ?_
  rw [or_1 kk hkk xv hx]
  refine ow_iasN rfl rfl (by omega) (by omega) hlen rfl rfl ?_
  refine RT_step (pc2 := 22) rfl (fun _ _ => rfl) ?_
  refine ow_iv0 rfl rfl rfl rfl hlen rfl rfl rfl ((hm _ (ov_hl hlen) (ov_at rfl (ov_lt hlen (by decide))) (ov_at rfl (ov_lt hlen (by decide)))).up (by decide)) rfl ?_
  exact ow_ret rfl rfl rfl
theorem m_one_1 {H : List AE} (hlen : Nat.ble 204 H.length = true) {ts : List Int32} {n lim a pl kd : Nat} {nm sg qm td : Int32} {wd : Int64} {pr : List Value} {rd : List Int32} {rn : List Int64} {on : List Int32} {M2 : AE} (hk : km kd < 10) (h : (Nat.beq (km kd) 2 && nmB wd 30 0) = false) (hm : MQt ts 1 174 [.ref 180, .int (Int32.ofNat 1)] (mcl (Int32.ofNat 0) (Int32.ofNat 0) n lim a pl (km kd) nm sg (Int32.ofNat 0) qm wd td (pof pr)) (some (.int (Int32.ofNat 0))) M2) : FR 4 222 [.ref 180] (ov H ((180, mcl (Int32.ofNat 0) (Int32.ofNat 0) n lim a pl (km kd) nm sg (Int32.ofNat 0) qm wd td (pof pr)) :: (181, mtl ts) :: [(183, ia rd), (188, lng rn), (191, zb on)])) (some (.int (Int32.ofNat 0)), ov (ov H ((180, mcl (Int32.ofNat 0) (Int32.ofNat 0) n lim a pl (km kd) nm sg (Int32.ofNat 0) qm wd td (pof pr)) :: (181, mtl ts) :: [(183, ia rd), (188, lng rn), (191, zb on)])) ((180, M2) :: (181, mtl ts) :: [(183, ia rd), (188, lng rn), (191, zb on)])) := by
  refine FR_st rfl rfl ?_
  refine RT_step (pc2 := 1) rfl (fun _ _ => rfl) ?_
  refine ow_iv1 rfl rfl rfl rfl hlen rfl rfl rfl ((m_isName (ov_hl hlen) (ov_at rfl (ov_lt hlen (by decide))) hk).up (by decide)) rfl ?_
  refine bcT_ne rfl (b01_f h) ?_
  refine RT_step (pc2 := 8) rfl (fun _ _ => rfl) ?_
  refine rt_ico rfl ki_1 ?_
  refine ow_iv1 rfl rfl rfl rfl hlen rfl rfl rfl ((hm _ (ov_hl hlen) (ov_at rfl (ov_lt hlen (by decide))) (ov_at rfl (ov_lt hlen (by decide)))).up (by decide)) rfl ?_
  exact ow_irt rfl rfl rfl
theorem m_one_3 {H : List AE} (hlen : Nat.ble 204 H.length = true) {ts : List Int32} {n lim a pl kd : Nat} {nm sg qm td : Int32} {wd : Int64} {pr : List Value} {rd : List Int32} {rn : List Int64} {on : List Int32} {M2 : AE} (hk : km kd < 10) (h : (Nat.beq (km kd) 2 && nmB wd 30 0) = true) {P : Nat} (r0 : rd[0]? = some (Int32.ofNat P)) (hP : P ≤ 7) (ln : rn.length = 15) (hf : fd rn wd 0 P 0 = none) (hm : MQt ts 1 174 [.ref 180, .int (Int32.ofNat 3)] (mcl (Int32.ofNat 0) (Int32.ofNat 0) n lim a pl (km kd) nm sg (Int32.ofNat 0) qm wd (-1 : Int32) (pof pr)) (some (.int (Int32.ofNat 0))) M2) : FR 4 222 [.ref 180] (ov H ((180, mcl (Int32.ofNat 0) (Int32.ofNat 0) n lim a pl (km kd) nm sg (Int32.ofNat 0) qm wd td (pof pr)) :: (181, mtl ts) :: [(183, ia rd), (188, lng rn), (191, zb on)])) (some (.int (Int32.ofNat 0)), ov (ov H ((180, mcl (Int32.ofNat 0) (Int32.ofNat 0) n lim a pl (km kd) nm sg (Int32.ofNat 0) qm wd td (pof pr)) :: (181, mtl ts) :: [(183, ia rd), (188, lng rn), (191, zb on)])) ((180, M2) :: (181, mtl ts) :: [(183, ia rd), (188, lng rn), (191, zb on)])) := by
  refine FR_st rfl rfl ?_
  refine RT_step (pc2 := 1) rfl (fun _ _ => rfl) ?_
  refine ow_iv1 rfl rfl rfl rfl hlen rfl rfl rfl ((m_isName (ov_hl hlen) (ov_at rfl (ov_lt hlen (by decide))) hk).up (by decide)) rfl ?_
  refine bcF_ne rfl (b01_t h) ?_
  refine RT_step (pc2 := 14) rfl (fun _ _ => rfl) ?_
  refine RT_step (pc2 := 15) rfl (fun _ _ => rfl) ?_
  refine ow_gf rfl rfl rfl hlen rfl ?_
  refine rt_ico rfl ki_0 ?_
  refine RT_step (pc2 := 20) rfl (fun _ _ => rfl) ?_
  refine ow_gf rfl rfl rfl hlen rfl ?_
  refine rt_ico rfl ki_0 ?_
  refine ow_ialN rfl rfl r0 (by omega) hlen rfl ?_
  refine RT_step (pc2 := 26) rfl (fun _ _ => rfl) ?_
  refine ow_gf rfl rfl rfl hlen rfl ?_
  refine ow_is1 rfl rfl rfl rfl rfl ((m_find (bs0 := 0) (cnt := P) (ov_hl hlen) (ov_at rfl (ov_lt hlen (by decide))) (by omega) (by omega)).up (by decide)) rfl ?_
  rw [show fdI (fd rn wd 0 P 0) = (-1 : Int32) from fdI_n hf]
  refine ow_pf rfl rfl rfl rfl rfl hlen rfl rfl ?_
  refine RT_step (pc2 := 36) rfl (fun _ _ => rfl) ?_
  refine ow_gf rfl rfl rfl hlen rfl ?_
  refine rt_ico rfl ki_m1 ?_
  refine biT_ne rfl rfl ?_
  refine RT_step (pc2 := 44) rfl (fun _ _ => rfl) ?_
  refine rt_ico rfl ki_3 ?_
  refine ow_iv1 rfl rfl rfl rfl hlen rfl rfl rfl ((hm _ (ov_hl hlen) (ov_at rfl (ov_lt hlen (by decide))) (ov_at rfl (ov_lt hlen (by decide)))).up (by decide)) rfl ?_
  refine bcT_eq rfl rfl ?_
  refine rt_ico rfl ki_0 ?_
  exact ow_irt rfl rfl rfl
theorem m_one_t {H : List AE} (hlen : Nat.ble 204 H.length = true) {ts : List Int32} {n lim a pl kd : Nat} {nm sg qm td : Int32} {wd : Int64} {pr : List Value} {rd : List Int32} {rn : List Int64} {on : List Int32} (hk : km kd < 10) (h : (Nat.beq (km kd) 2 && nmB wd 30 0) = true) {P : Nat} (r0 : rd[0]? = some (Int32.ofNat P)) (hP : P ≤ 7) (ln : rn.length = 15) {j : Nat} (hf : fd rn wd 0 P 0 = some j) (hj : j < 100) : FR 4 222 [.ref 180] (ov H ((180, mcl (Int32.ofNat 0) (Int32.ofNat 0) n lim a pl (km kd) nm sg (Int32.ofNat 0) qm wd td (pof pr)) :: (181, mtl ts) :: [(183, ia rd), (188, lng rn), (191, zb on)])) (some (.int (Int32.ofNat 1)), ov (ov H ((180, mcl (Int32.ofNat 0) (Int32.ofNat 0) n lim a pl (km kd) nm sg (Int32.ofNat 0) qm wd td (pof pr)) :: (181, mtl ts) :: [(183, ia rd), (188, lng rn), (191, zb on)])) ((180, mcl (Int32.ofNat 0) (Int32.ofNat 0) n lim a pl (km kd) nm sg (Int32.ofNat 0) qm wd (Int32.ofNat j) (pof pr)) :: (181, mtl ts) :: [(183, ia rd), (188, lng rn), (191, zb on)])) := by
  refine FR_st rfl rfl ?_
  refine RT_step (pc2 := 1) rfl (fun _ _ => rfl) ?_
  refine ow_iv1 rfl rfl rfl rfl hlen rfl rfl rfl ((m_isName (ov_hl hlen) (ov_at rfl (ov_lt hlen (by decide))) hk).up (by decide)) rfl ?_
  refine bcF_ne rfl (b01_t h) ?_
  refine RT_step (pc2 := 14) rfl (fun _ _ => rfl) ?_
  refine RT_step (pc2 := 15) rfl (fun _ _ => rfl) ?_
  refine ow_gf rfl rfl rfl hlen rfl ?_
  refine rt_ico rfl ki_0 ?_
  refine RT_step (pc2 := 20) rfl (fun _ _ => rfl) ?_
  refine ow_gf rfl rfl rfl hlen rfl ?_
  refine rt_ico rfl ki_0 ?_
  refine ow_ialN rfl rfl r0 (by omega) hlen rfl ?_
  refine RT_step (pc2 := 26) rfl (fun _ _ => rfl) ?_
  refine ow_gf rfl rfl rfl hlen rfl ?_
  refine ow_is1 rfl rfl rfl rfl rfl ((m_find (bs0 := 0) (cnt := P) (ov_hl hlen) (ov_at rfl (ov_lt hlen (by decide))) (by omega) (by omega)).up (by decide)) rfl ?_
  rw [show fdI (fd rn wd 0 P 0) = Int32.ofNat j from by rw [hf]; rfl]
  refine ow_pf rfl rfl rfl rfl rfl hlen rfl rfl ?_
  refine RT_step (pc2 := 36) rfl (fun _ _ => rfl) ?_
  refine ow_gf rfl rfl rfl hlen rfl ?_
  refine rt_ico rfl ki_m1 ?_
  refine biF_ne rfl (n_m1 (by omega)) ?_
  refine rt_ico rfl ki_1 ?_
  refine RT_step (pc2 := 56) rfl (fun _ _ => rfl) ?_
  exact ow_irt rfl rfl rfl
def LR (bs ts : List Int32) (kx x : Nat) (Ax : List Value) (ky m : Nat) (Am : List Value) (T M : AE) (D R : List (Nat × AE)) (rx rm : Value) (T2 M2 : AE) (D2 R2 : List (Nat × AE)) : Prop := (∀ H : List AE, Nat.ble 204 H.length = true → FR kx x Ax (ov H ((1, T) :: (2, bcl bs) :: D)) (some rx, ov (ov H ((1, T) :: (2, bcl bs) :: D)) ((1, T2) :: (2, bcl bs) :: D2))) ∧ ∀ H : List AE, Nat.ble 204 H.length = true → FR ky m Am (ov H ((180, M) :: (181, mtl ts) :: R)) (some rm, ov (ov H ((180, M) :: (181, mtl ts) :: R)) ((180, M2) :: (181, mtl ts) :: R2))
theorem tc_mono {n lim : Nat} {po : List Value} {k k2 : Nat} {tk td : Int32} {T M : AE} (h : TC n lim po k tk td T M) (hk : k2 ≤ k) : TC n lim po k2 tk td T M := by
  obtain ⟨a, kd, pl, w, le, nu, fp, nm, sg, qm, wd, e1, e2, t1, t2, t3, t4⟩ := h
  exact ⟨a, kd, pl, w, le, nu, fp, nm, sg, qm, wd, e1, e2, t1, by omega, fun x y => by have := t3 x y; omega, t4⟩
theorem tf_td {n lim : Nat} {po : List Value} {k a kd pl w : Nat} {le : Int64} {nu tk td fp nm sg qm : Int32} {wd : Int64} (t : TF k n a kd w le nu nm sg wd) : TC n lim po k tk td (tcl n lim a kd pl w le nu tk (Int32.ofNat 0) fp) (mcl (Int32.ofNat 0) (Int32.ofNat 0) n lim a pl (km kd) nm sg (Int32.ofNat 0) qm wd td po) := ⟨a, kd, pl, w, le, nu, fp, nm, sg, qm, wd, rfl, rfl, t⟩
def SHR (R : List (Nat × AE)) : Prop := ∃ (rd : List Int32) (rn : List Int64) (on : List Int32), R = [(183, ia rd), (188, lng rn), (191, zb on)]
def SH3 (D : List (Nat × AE)) : Prop := ∃ (P : Nat) (Dn : Nat) (lw : Int32) (cl : Int32) (id : Int32) (gl : Nat) (bo : Nat) (pn : List Int64) (ri : List Int32) (lf : List Int32) (wa : List Int32) (fo : List Int32) (dn : List Int64) (ha : List Int32) (pa : List Int32) (bl : List Int32), D = [(3, dcl3 P Dn lw cl id gl bo), (4, lng pn), (5, ia ri), (6, ia lf), (7, ia wa), (8, ia fo), (9, lng dn), (10, ia ha), (11, ia pa), (12, ia bl)]
def SD3 (D R : List (Nat × AE)) : Prop := ∃ (P : Nat) (Dn : Nat) (lw : Int32) (cl : Int32) (id : Int32) (gl : Nat) (bo : Nat) (pn : List Int64) (ri : List Int32) (lf : List Int32) (wa : List Int32) (fo : List Int32) (dn : List Int64) (ha : List Int32) (pa : List Int32) (bl : List Int32) (rd : List Int32) (rn : List Int64) (on : List Int32), D = [(3, dcl3 P Dn lw cl id gl bo), (4, lng pn), (5, ia ri), (6, ia lf), (7, ia wa), (8, ia fo), (9, lng dn), (10, ia ha), (11, ia pa), (12, ia bl)] ∧ R = [(183, ia rd), (188, lng rn), (191, zb on)] ∧ DR P Dn lw cl id gl bo pn ri lf wa fo dn ha pa bl rd rn on
def SH13 (D : List (Nat × AE)) : Prop := ∃ (P : Nat) (Dn : Nat) (lw : Int32) (cl : Int32) (id : Int32) (gl : Nat) (bo : Nat) (pn : List Int64) (ri : List Int32) (lf : List Int32) (wa : List Int32) (fo : List Int32) (dn : List Int64) (ha : List Int32) (pa : List Int32) (bl : List Int32), D = [(13, dcl13 P Dn lw cl id gl bo), (14, lng pn), (15, ia ri), (16, ia lf), (17, ia wa), (18, ia fo), (19, lng dn), (20, ia ha), (21, ia pa), (22, ia bl)]
def SD13 (D R : List (Nat × AE)) : Prop := ∃ (P : Nat) (Dn : Nat) (lw : Int32) (cl : Int32) (id : Int32) (gl : Nat) (bo : Nat) (pn : List Int64) (ri : List Int32) (lf : List Int32) (wa : List Int32) (fo : List Int32) (dn : List Int64) (ha : List Int32) (pa : List Int32) (bl : List Int32) (rd : List Int32) (rn : List Int64) (on : List Int32), D = [(13, dcl13 P Dn lw cl id gl bo), (14, lng pn), (15, ia ri), (16, ia lf), (17, ia wa), (18, ia fo), (19, lng dn), (20, ia ha), (21, ia pa), (22, ia bl)] ∧ R = [(183, ia rd), (188, lng rn), (191, zb on)] ∧ DR P Dn lw cl id gl bo pn ri lf wa fo dn ha pa bl rd rn on
end
