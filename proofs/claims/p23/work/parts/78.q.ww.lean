/-- the class's number of each of the reference's words -/
def WX : List Nat := [2, 4, 5, 6, 7, 8, 9, 10, 11, 12, 13, 14, 15, 17, 18, 19, 16, 20, 21, 22, 23, 3, 24, 25, 26, 27, 28, 29, 30, 31]
theorem wt_ok : ∀ k, k < 30 → vl (WT.getD k []) = true ∧ (WT.getD k []).length ≤ 7 ∧ ev_lt.getD (WX.getD k 0) 0 = p5 (WT.getD k []) ∧ wix (p5 (WT.getD k [])) 32 0 = WX.getD k 0 ∧ 2 ≤ WX.getD k 0 := by decide +kernel
theorem wx_all : ∀ i, i < 32 → 2 ≤ i → ∃ k, k < 30 ∧ WX.getD k 0 = i := by decide +kernel
theorem wix_of (le : Int64) : ∀ (r i : Nat), i + r = 32 → (wix le r i = 1 ∧ (le = 0 ∨ ∀ j, i ≤ j → j < 32 → ev_lt.getD j 0 ≠ le)) ∨ (le ≠ 0 ∧ ev_lt.getD (wix le r i) 0 = le ∧ wix le r i < 32)
  | 0, i, h => Or.inl ⟨rfl, Or.inr (fun j h1 h2 => by omega)⟩
  | r + 1, i, h => by
    by_cases h0 : le = 0
    · rw [show wix le (r + 1) i = wix le r (i + 1) from if_pos h0]
      rcases wix_of le r (i + 1) (by omega) with e | e
      · exact Or.inl ⟨e.1, Or.inl h0⟩
      · exact absurd h0 e.1
    · by_cases h1 : ev_lt.getD i 0 = le
      · rw [show wix le (r + 1) i = i from by show (if le = 0 then _ else _) = _; rw [if_neg h0, if_pos h1]]
        exact Or.inr ⟨h0, h1, by omega⟩
      · rw [show wix le (r + 1) i = wix le r (i + 1) from by show (if le = 0 then _ else _) = _; rw [if_neg h0, if_neg h1]]
        rcases wix_of le r (i + 1) (by omega) with e | e
        · refine Or.inl ⟨e.1, e.2.imp id (fun e j h2 h3 => ?_)⟩
          by_cases hj : j = i
          · rw [hj]; exact h1
          · exact e j (by omega) h3
        · exact Or.inr e
theorem nmB_of (wd : Int64) : ∀ (r k : Nat), nmB wd r k = true ↔ ∀ j, k ≤ j → j < k + r → wd ≠ wo j
  | 0, k => ⟨fun _ j h1 h2 => by omega, fun _ => rfl⟩
  | r + 1, k => by
    have ih := nmB_of wd r (k + 1)
    by_cases h : wd = wo k
    · rw [show nmB wd (r + 1) k = false from if_pos h]
      exact ⟨fun e => (by cases e), fun e => absurd h (e k (Nat.le_refl k) (by omega))⟩
    · rw [show nmB wd (r + 1) k = nmB wd r (k + 1) from if_neg h, ih]
      refine ⟨fun e j h1 h2 => ?_, fun e j h1 h2 => e j (by omega) (by omega)⟩
      by_cases hj : j = k
      · rw [hj]; exact h
      · exact e j (by omega) (by omega)
theorem p5_ne {rs : List Nat} (h : vl rs = true) (h1 : 1 ≤ rs.length) (h7 : rs.length ≤ 7) : p5 rs ≠ 0 := fun e => by
  have := p5_inj (ss := []) h rfl h7 (by decide) e
  rw [this] at h1
  exact absurd h1 (by decide)
/-- the reference finds its word k just where the class has that word -/
theorem word_iff {rs : List Nat} (h : vl rs = true) (h7 : rs.length ≤ 7) {k : Nat} (hk : k < 30) : p27 rs = wo k ↔ wix (p5 rs) 32 0 = WX.getD k 0 := by
  obtain ⟨w1, w2, w3, w4, w5⟩ := wt_ok k hk
  constructor
  · intro e
    have e2 := p27_inj h w1 h7 w2 e
    rw [e2]; exact w4
  · intro e
    rcases wix_of (p5 rs) 32 0 rfl with e2 | e2
    · rw [e2.1] at e; omega
    · rw [e, w3] at e2
      have e3 := p5_inj w1 h w2 h7 e2.2.1
      show p27 rs = p27 (WT.getD k [])
      rw [e3]
theorem name_iff {rs : List Nat} (h : vl rs = true) (h1 : 1 ≤ rs.length) (h7 : rs.length ≤ 7) : nmB (p27 rs) 30 0 = true ↔ wix (p5 rs) 32 0 = 1 := by
  have hlt := wix_lt (p5 rs) 32 0 rfl
  rw [nmB_of]
  constructor
  · intro e
    rcases wix_of (p5 rs) 32 0 rfl with e2 | e2
    · exact e2.1
    · exfalso
      by_cases hi : 2 ≤ wix (p5 rs) 32 0
      · obtain ⟨k, k1, k2⟩ := wx_all _ hlt hi
        exact e k (Nat.zero_le k) (by omega) ((word_iff h h7 k1).mpr k2.symm)
      · have h01 : wix (p5 rs) 32 0 = 0 ∨ wix (p5 rs) 32 0 = 1 := by omega
        rcases h01 with h01 | h01 <;> (rw [h01] at e2; exact e2.1 (e2.2.1.symm.trans (by decide +kernel)))
  · intro e k _ hk e3
    have e4 := (word_iff h h7 (k := k) (by omega)).mp e3
    have := (wt_ok k (by omega)).2.2.2.2
    omega
