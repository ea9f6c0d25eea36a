/-! ===== a TOKEN, as the reference reads it ===== -/
def MY (ts : List Int32) (B : Nat → Nat) : Prop := ∀ i, i < 940 → ts[i]? = some (Int32.ofNat (B i)) ∧ B i < 256
def mcl (p0 p2 : Int32) (sz lim a fr kd : Nat) (nu sg fa pl : Int32) (wd : Int64) (td : Int32) (po : List Value) : AE := .inr (11, .int p0 :: .ref 181 :: .int p2 :: .int (Int32.ofNat sz) :: .int (Int32.ofNat lim) :: .int (Int32.ofNat a) :: .int (Int32.ofNat fr) :: .int (Int32.ofNat kd) :: .int nu :: .int sg :: .int fa :: .int pl :: .long wd :: .int td :: po)
def mtl (ts : List Int32) : AE := .inl (1, .inl ts)
def mw (wd : Int64) (c : Nat) : Int64 := Int64.ofNat 27 * wd + (Int32.ofNat c).toInt64 - Int64.ofNat 96
def mn (nu : Int32) (c : Nat) : Int32 := Int32.ofNat 10 * nu + Int32.ofNat c - Int32.ofNat 48
/-- the run from a on (it began at fr): where it ends, whether all signs are of one kind, word, number -/
def mrun (B : Nat → Nat) (lt : Bool) (fr : Nat) : Nat → Nat → Bool → Int64 → Int32 → Nat × Bool × Int64 × Int32
  | 0, a, g, wd, nu => (a, g, wd, nu)
  | r + 1, a, g, wd, nu => cond (isLt (B a) || isDg (B a)) (mrun B lt fr r (a + 1) (g && (isLt (B a) == lt)) (if a - fr < 7 then mw wd (B a) else wd) (if a - fr < 3 then mn nu (B a) else nu)) (a, g, wd, nu)
theorem m_isLetter {H : List AE} {c : Nat} (hc : c < 256) : FR 1 220 [.int (Int32.ofNat c)] H (some (.int (b01 (isLt c))), ov H []) := by sorry
theorem m_isDigit {H : List AE} {c : Nat} (hc : c < 256) : FR 1 215 [.int (Int32.ofNat c)] H (some (.int (b01 (isDg c))), ov H []) := by sorry
theorem m_rd {ts : List Int32} {B : Nat → Nat} (hM : MY ts B) {i : Nat} (hi : i < 940) : ev_rd ts (Int32.ofNat i) = some (Int32.ofNat (B i)) := by sorry
theorem m_tapeAt {H : List AE} {ts : List Int32} {B : Nat → Nat} (hM : MY ts B) (hlen : Nat.ble 204 H.length = true) {p0 p2 nu sg fa pl td : Int32} {sz lim fr kd : Nat} {wd : Int64} {po : List Value} {a : Nat} (h1 : H[180]? = some (mcl p0 p2 sz lim a fr kd nu sg fa pl wd td po)) (h2 : H[181]? = some (mtl ts)) (hs : sz ≤ 940) {i : Nat} (hi : i < sz) : FR 1 285 [.ref 180, .int (Int32.ofNat i)] H (some (.int (Int32.ofNat (B i))), ov H []) := by sorry
theorem m_tapeEnd {H : List AE} (hlen : Nat.ble 204 H.length = true) {p0 p2 nu sg fa pl td : Int32} {sz lim fr kd : Nat} {wd : Int64} {po : List Value} {a : Nat} (h1 : H[180]? = some (mcl p0 p2 sz lim a fr kd nu sg fa pl wd td po)) (hs : sz ≤ 940) : FR 1 285 [.ref 180, .int (Int32.ofNat sz)] H (some (.int (Int32.ofNat 0)), ov H []) := by sorry
theorem m_skip {H : List AE} {ts : List Int32} {B : Nat → Nat} (hM : MY ts B) (hlen : Nat.ble 204 H.length = true) {p0 p2 nu sg fa pl td : Int32} {sz lim fr kd : Nat} {wd : Int64} {po : List Value} (hs : sz ≤ 940) {dd : Nat} {q : ev_R} : ∀ (r a : Nat), a + r = sz → RT MM dd 205 52 [(0, .ref 180)] [] (ov H [(180, mcl p0 p2 sz lim (skp B r a) fr kd nu sg fa pl wd td po), (181, mtl ts)]) q → RT MM dd 205 0 [(0, .ref 180)] [] (ov H [(180, mcl p0 p2 sz lim a fr kd nu sg fa pl wd td po), (181, mtl ts)]) q := by sorry
