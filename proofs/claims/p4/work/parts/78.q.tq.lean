/-! ===== a TOKEN, as the class reads it ===== -/
def wl (le : Int64) (c : Nat) : Int64 := le <<< ((Int32.ofNat 5).toInt64 &&& 63) ||| (Int32.ofNat c - Int32.ofNat 97 + Int32.ofNat 1).toInt64
def xrun (B : Nat → Nat) : Nat → Nat → Nat → Nat → Int64 → Int32 → Nat × Nat × Nat × Int64 × Int32
  | 0, a, lc, dc, le, nu => (a, lc, dc, le, nu)
  | r + 1, a, lc, dc, le, nu => cond (isLt (B a)) (xrun B r (a + 1) (lc + 1) dc (wl le (B a)) nu) (cond (isDg (B a)) (xrun B r (a + 1) lc (dc + 1) le (nu * Int32.ofNat 10 + (Int32.ofNat (B a) - Int32.ofNat 48))) (a, lc, dc, le, nu))
/-- which constant of Word has these letters, from i on -/
def wix (le : Int64) : Nat → Nat → Nat
  | 0, _ => 1
  | r + 1, i => if le = 0 then wix le r (i + 1) else if ev_lt.getD i 0 = le then i else wix le r (i + 1)
theorem ki_3 : Int32.ofInt 3 = Int32.ofNat 3 := by sorry
theorem ki_5 : Int32.ofInt 5 = Int32.ofNat 5 := by sorry
theorem x_withLetter {H : List AE} {le : Int64} {c : Nat} : FR 1 170 [.long le, .int (Int32.ofNat c)] H (some (.long (wl le c)), ov H []) := by sorry
theorem x_readMark {H : List AE} {bs : List Int32} {B : Nat → Nat} (hB : BY bs B) (hlen : Nat.ble 204 H.length = true) {n lim kd pl w : Nat} {le : Int64} {nu tk fa fp : Int32} {a : Nat} (h1 : H[1]? = some (tcl n lim a kd pl w le nu tk fa fp)) (h2 : H[2]? = some (bcl bs)) (ha : a < 940) : FR 2 163 [.ref 1] H (none, ov H [(1, tcl n lim (a + 1) (cond (isMk (B a)) 3 0) pl w le (Int32.ofNat (B a)) tk fa fp)]) := by sorry
theorem x_run {H : List AE} {bs : List Int32} {B : Nat → Nat} (hB : BY bs B) (hlen : Nat.ble 204 H.length = true) {n lim kd pl w : Nat} {tk fa fp : Int32} (hn : n ≤ 940) {dd : Nat} (hd : 1 ≤ dd) {q : ev_R} : ∀ (r a lc dc : Nat) (le : Int64) (nu : Int32) (L : List (Nat × Value)), a + r = n → lc + r ≤ 2000 → dc + r ≤ 2000 → ev_g L 0 = some (.ref 1) → ev_g L 1 = some (.int (Int32.ofNat lc)) → ev_g L 2 = some (.int (Int32.ofNat dc)) → (∀ L2, ev_g L2 0 = some (.ref 1) → ev_g L2 1 = some (.int (Int32.ofNat (xrun B r a lc dc le nu).2.1)) → ev_g L2 2 = some (.int (Int32.ofNat (xrun B r a lc dc le nu).2.2.1)) → RT MM dd 164 88 L2 [] (ov H [(1, tcl n lim (xrun B r a lc dc le nu).1 kd pl w (xrun B r a lc dc le nu).2.2.2.1 (xrun B r a lc dc le nu).2.2.2.2 tk fa fp), (2, bcl bs)]) q) → RT MM dd 164 4 L [] (ov H [(1, tcl n lim a kd pl w le nu tk fa fp), (2, bcl bs)]) q := by sorry
