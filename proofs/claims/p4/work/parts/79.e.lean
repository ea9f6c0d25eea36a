/-! ===== duchy, image, restore, feed: both sides keep the relation ===== -/
theorem sd_runQF {mi k : Nat} {As : List Value} {hp : List AE} {Q : ev_R → Prop} (h : ∃ q : ev_R, (∃ N, ∀ F, N ≤ F → ∀ d, k ≤ d → evF F MM d mi As hp = some q) ∧ Q q) (l : Launch) (b : Nat) (en ac : Nat → Nat) (D : va_G) (hd : k ≤ 100) (ho : plainName (mY MM mi).cls = true) : ∃ q : ev_R, ev_M l b en ac D MM 100 mi As hp q ∧ FR k mi As hp q ∧ Q q := by sorry
/-- duchy -/
theorem op_duchy (l : Launch) (b : Nat) (en ac : Nat → Nat) (D : va_G) {hp : List AE} (I : LInv hp) (X : XX hp) : OpE l b en ac D 14 195 [] hp := by sorry
/-! ===== image, restore: the same answers ===== -/
/-- image -/
theorem op_image (l : Launch) (b : Nat) (en ac : Nat → Nat) (D : va_G) {hp : List AE} (I : LInv hp) (X : XX hp) (z1 : Int32) : OpE l b en ac D 25 212 [.int z1] hp := by sorry
/-- restore -/
theorem op_restore (l : Launch) (b : Nat) (en ac : Nat → Nat) (D : va_G) {hp : List AE} (I : LInv hp) (X : XX hp) (z1 : Int32) : OpE l b en ac D 35 269 [.int z1] hp := by sorry
/-- feed -/
theorem op_feed (l : Launch) (b : Nat) (en ac : Nat → Nat) (D : va_G) {hp : List AE} (I : LInv hp) (z1 z2 z3 z4 z5 : Int32) : OpE l b en ac D 18 199 [.int z1, .int z2, .int z3, .int z4, .int z5] hp := by sorry
