/-! ===== signs ===== -/
def isBl (c : Nat) : Bool := Nat.beq c 32 || Nat.beq c 10
def isLt (c : Nat) : Bool := Nat.ble 97 c && Nat.ble c 122
def isDg (c : Nat) : Bool := Nat.ble 48 c && Nat.ble c 57
def isMk (c : Nat) : Bool := Nat.beq c 59 || Nat.beq c 60 || Nat.beq c 61 || Nat.beq c 62 || Nat.beq c 40 || Nat.beq c 41
def BY (bs : List Int32) (B : Nat → Nat) : Prop := ∀ i, i < 940 → ∃ v, bs[i]? = some v ∧ v &&& Int32.ofNat 255 = Int32.ofNat (B i) ∧ B i < 256
def skp (B : Nat → Nat) : Nat → Nat → Nat
  | 0, i => i
  | r + 1, i => cond (isBl (B i)) (skp B r (i + 1)) i
theorem skp_le (B : Nat → Nat) : ∀ r i, i ≤ skp B r i ∧ skp B r i ≤ i + r := by sorry
def tcl (n lim a kd pl w : Nat) (le : Int64) (nu tk fa fp : Int32) : AE := .inr (9, [.ref 2, .int (Int32.ofNat n), .int (Int32.ofNat lim), .int (Int32.ofNat a), .int (Int32.ofNat kd), .int (Int32.ofNat pl), .retAddr w, .long le, .int nu, .int tk, .int fa, .int fp])
def bcl (bs : List Int32) : AE := .inl (0, .inl bs)
theorem k16_255 : (Int16.ofInt 255).toInt32 = Int32.ofNat 255 := by sorry
theorem k16_940 : (Int16.ofInt 940).toInt32 = Int32.ofNat 940 := by sorry
theorem k8_10 : (Int8.ofInt 10).toInt32 = Int32.ofNat 10 := by sorry
theorem k8_122 : (Int8.ofInt 122).toInt32 = Int32.ofNat 122 := by sorry
theorem k8_32 : (Int8.ofInt 32).toInt32 = Int32.ofNat 32 := by sorry
theorem k8_40 : (Int8.ofInt 40).toInt32 = Int32.ofNat 40 := by sorry
theorem k8_41 : (Int8.ofInt 41).toInt32 = Int32.ofNat 41 := by sorry
theorem k8_48 : (Int8.ofInt 48).toInt32 = Int32.ofNat 48 := by sorry
theorem k8_57 : (Int8.ofInt 57).toInt32 = Int32.ofNat 57 := by sorry
theorem k8_59 : (Int8.ofInt 59).toInt32 = Int32.ofNat 59 := by sorry
theorem k8_60 : (Int8.ofInt 60).toInt32 = Int32.ofNat 60 := by sorry
theorem k8_61 : (Int8.ofInt 61).toInt32 = Int32.ofNat 61 := by sorry
theorem k8_62 : (Int8.ofInt 62).toInt32 = Int32.ofNat 62 := by sorry
theorem k8_97 : (Int8.ofInt 97).toInt32 = Int32.ofNat 97 := by sorry
theorem ki_0 : Int32.ofInt 0 = Int32.ofNat 0 := by sorry
theorem ki_1 : Int32.ofInt 1 = Int32.ofNat 1 := by sorry
theorem x_isBlank {H : List AE} {c : Nat} (hc : c < 256) : FR 1 156 [.int (Int32.ofNat c)] H (some (.int (b01 (isBl c))), ov H []) := by sorry
theorem ble_f {a b : Nat} (h : b < a) : Nat.ble a b = false := by sorry
theorem x_isLetter {H : List AE} {c : Nat} (hc : c < 256) : FR 1 158 [.int (Int32.ofNat c)] H (some (.int (b01 (isLt c))), ov H []) := by sorry
theorem x_isDigit {H : List AE} {c : Nat} (hc : c < 256) : FR 1 157 [.int (Int32.ofNat c)] H (some (.int (b01 (isDg c))), ov H []) := by sorry
theorem x_isMark {H : List AE} {c : Nat} (hc : c < 256) : FR 1 159 [.int (Int32.ofNat c)] H (some (.int (b01 (isMk c))), ov H []) := by sorry
theorem x_signAt {H : List AE} {bs : List Int32} {fs : List Value} {B : Nat → Nat} (h1 : H[1]? = some (.inr (9, .ref 2 :: fs))) (h2 : H[2]? = some (bcl bs)) (hB : BY bs B) (hlen : Nat.ble 204 H.length = true) {i : Nat} (hi : i < 940) : FR 1 166 [.ref 1, .int (Int32.ofNat i)] H (some (.int (Int32.ofNat (B i))), ov H []) := by sorry
theorem ov_lt {H : List AE} (h : Nat.ble 204 H.length = true) {a : Nat} (ha : a < 204) : a < H.length := by sorry
theorem ov_hl {H : List AE} {l : List (Nat × AE)} (h : Nat.ble 204 H.length = true) : Nat.ble 204 (ov H l).length = true := by sorry
theorem x_skip {H : List AE} {bs : List Int32} {B : Nat → Nat} (hB : BY bs B) (hlen : Nat.ble 204 H.length = true) {n lim kd pl w : Nat} {le : Int64} {nu tk fa fp : Int32} (hn : n ≤ 940) {dd : Nat} (hd : 1 ≤ dd) {q : ev_R} : ∀ (r a : Nat), a + r = n → RT MM dd 155 55 [(0, .ref 1)] [] (ov H [(1, tcl n lim (skp B r a) kd pl w le nu tk fa fp), (2, bcl bs)]) q → RT MM dd 155 17 [(0, .ref 1)] [] (ov H [(1, tcl n lim a kd pl w le nu tk fa fp), (2, bcl bs)]) q := by sorry
