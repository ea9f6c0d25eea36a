/-- the class's number of each of the reference's words -/
def WX : List Nat := [2, 4, 5, 6, 7, 8, 9, 10, 11, 12, 13, 14, 15, 17, 18, 19, 16, 20, 21, 22, 23, 3, 24, 25, 26, 27, 28, 29, 30, 31]
theorem wt_ok : ∀ k, k < 30 → vl (WT.getD k []) = true ∧ (WT.getD k []).length ≤ 7 ∧ ev_lt.getD (WX.getD k 0) 0 = p5 (WT.getD k []) ∧ wix (p5 (WT.getD k [])) 32 0 = WX.getD k 0 ∧ 2 ≤ WX.getD k 0 := by sorry
theorem wx_all : ∀ i, i < 32 → 2 ≤ i → ∃ k, k < 30 ∧ WX.getD k 0 = i := by sorry
theorem wix_of (le : Int64) : ∀ (r i : Nat), i + r = 32 → (wix le r i = 1 ∧ (le = 0 ∨ ∀ j, i ≤ j → j < 32 → ev_lt.getD j 0 ≠ le)) ∨ (le ≠ 0 ∧ ev_lt.getD (wix le r i) 0 = le ∧ wix le r i < 32) := by sorry
theorem nmB_of (wd : Int64) : ∀ (r k : Nat), nmB wd r k = true ↔ ∀ j, k ≤ j → j < k + r → wd ≠ wo j := by sorry
theorem p5_ne {rs : List Nat} (h : vl rs = true) (h1 : 1 ≤ rs.length) (h7 : rs.length ≤ 7) : p5 rs ≠ 0 := by sorry
/-- the reference finds its word k just where the class has that word -/
theorem word_iff {rs : List Nat} (h : vl rs = true) (h7 : rs.length ≤ 7) {k : Nat} (hk : k < 30) : p27 rs = wo k ↔ wix (p5 rs) 32 0 = WX.getD k 0 := by sorry
theorem name_iff {rs : List Nat} (h : vl rs = true) (h1 : 1 ≤ rs.length) (h7 : rs.length ≤ 7) : nmB (p27 rs) 30 0 = true ↔ wix (p5 rs) 32 0 = 1 := by sorry
