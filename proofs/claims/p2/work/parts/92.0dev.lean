/-! dev -/
theorem op_duchy (l : Launch) (b : Nat) (en ac : Nat → Nat) (D : va_G) {hp : List AE} (I : LInv hp) : OpR l b en ac D 14 195 [] hp := by sorry
theorem op_sentence (l : Launch) (b : Nat) (en ac : Nat → Nat) (D : va_G) {hp : List AE} (I : LInv hp) : OpR l b en ac D 38 273 [] hp := by sorry
theorem op_image (l : Launch) (b : Nat) (en ac : Nat → Nat) (D : va_G) {hp : List AE} (I : LInv hp) (z1 : Int32) : OpR l b en ac D 25 212 [.int z1] hp := by sorry
theorem op_restore (l : Launch) (b : Nat) (en ac : Nat → Nat) (D : va_G) {hp : List AE} (I : LInv hp) (z1 : Int32) : OpR l b en ac D 35 269 [.int z1] hp := by sorry
