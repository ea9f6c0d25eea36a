/-! ===== a TOKEN, as the class reads it: to its end ===== -/
theorem k8_7 : (Int8.ofInt 7).toInt32 = Int32.ofNat 7 := by sorry
theorem ki_2 : Int32.ofInt 2 = Int32.ofNat 2 := by sorry
theorem ki_4 : Int32.ofInt 4 = Int32.ofNat 4 := by sorry
theorem x_ofL {H : List AE} {le : Int64} {dd : Nat} : ∀ (r i : Nat) (L : List (Nat × Value)), i + r = 32 → ev_g L 0 = some (.long le) → ev_g L 2 = some (.int (Int32.ofNat i)) → RT MM dd 169 2 L [] H (some (.retAddr (wix le r i)), H) := by sorry
theorem x_of {H : List AE} {le : Int64} : FR 1 169 [.long le] H (some (.retAddr (wix le 32 0)), ov H []) := by sorry
theorem wix_lt (le : Int64) : ∀ r i, i + r = 32 → wix le r i < 32 := by sorry
def rrV (B : Nat → Nat) (n a w : Nat) (le : Int64) (nu : Int32) : Nat × Nat :=
  if (xrun B (n - a) a 0 0 le nu).2.2.1 = 0 ∧ (xrun B (n - a) a 0 0 le nu).2.1 ≤ 7 then (1, wix (xrun B (n - a) a 0 0 le nu).2.2.2.1 32 0) else if (xrun B (n - a) a 0 0 le nu).2.1 = 0 ∧ (xrun B (n - a) a 0 0 le nu).2.2.1 ≤ 3 then (2, w) else (0, w)
theorem xrun_le (B : Nat → Nat) : ∀ r a lc dc le nu, (xrun B r a lc dc le nu).1 ≤ a + r ∧ (xrun B r a lc dc le nu).2.1 ≤ lc + r ∧ (xrun B r a lc dc le nu).2.2.1 ≤ dc + r := by sorry
theorem x_readRun {H : List AE} {bs : List Int32} {B : Nat → Nat} (hB : BY bs B) (hlen : Nat.ble 204 H.length = true) {n lim kd pl w : Nat} {le : Int64} {nu tk fa fp : Int32} {a : Nat} (h1 : H[1]? = some (tcl n lim a kd pl w le nu tk fa fp)) (h2 : H[2]? = some (bcl bs)) (ha : a ≤ n) (hn : n ≤ 940) : FR 2 164 [.ref 1] H (none, ov H [(1, tcl n lim (xrun B (n - a) a 0 0 le nu).1 (rrV B n a w le nu).1 pl (rrV B n a w le nu).2 (xrun B (n - a) a 0 0 le nu).2.2.2.1 (xrun B (n - a) a 0 0 le nu).2.2.2.2 tk fa fp)]) := by sorry
/-- what advance leaves: place to go on, kind, place, word, letters, number -/
def advV (B : Nat → Nat) (n lim a : Nat) : Nat × Nat × Nat × Nat × Int64 × Int32 :=
  if lim ≤ skp B (n - a) a ∧ lim < n then (skp B (n - a) a, 0, lim, 0, 0, 0)
  else if n ≤ skp B (n - a) a then (skp B (n - a) a, 4, n, 0, 0, 0)
  else if isLt (B (skp B (n - a) a)) = true ∨ isDg (B (skp B (n - a) a)) = true then ((xrun B (n - skp B (n - a) a) (skp B (n - a) a) 0 0 0 0).1, (rrV B n (skp B (n - a) a) 0 0 0).1, skp B (n - a) a, (rrV B n (skp B (n - a) a) 0 0 0).2, (xrun B (n - skp B (n - a) a) (skp B (n - a) a) 0 0 0 0).2.2.2.1, (xrun B (n - skp B (n - a) a) (skp B (n - a) a) 0 0 0 0).2.2.2.2)
  else (skp B (n - a) a + 1, cond (isMk (B (skp B (n - a) a))) 3 0, skp B (n - a) a, 0, 0, Int32.ofNat (B (skp B (n - a) a)))
def advC (B : Nat → Nat) (n lim a : Nat) (tk fa fp : Int32) : AE := tcl n lim (advV B n lim a).1 (advV B n lim a).2.1 (advV B n lim a).2.2.1 (advV B n lim a).2.2.2.1 (advV B n lim a).2.2.2.2.1 (advV B n lim a).2.2.2.2.2 tk fa fp
theorem x_adv {H : List AE} {bs : List Int32} {B : Nat → Nat} (hB : BY bs B) (hlen : Nat.ble 204 H.length = true) {n lim kd pl w : Nat} {le : Int64} {nu tk fa fp : Int32} {a : Nat} (h1 : H[1]? = some (tcl n lim a kd pl w le nu tk fa fp)) (h2 : H[2]? = some (bcl bs)) (ha : a ≤ n) (hn : n ≤ 940) (hl : lim ≤ 940) : FR 3 155 [.ref 1] H (none, ov H [(1, advC B n lim a tk fa fp)]) := by sorry
