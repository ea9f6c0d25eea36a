/-! ===== the signs of a run, last one first; what both make of them ===== -/
def kL : List Nat → Nat
  | [] => 0
  | c :: rs => cond (isLt c) (kL rs + 1) (kL rs)
def kD : List Nat → Nat
  | [] => 0
  | c :: rs => cond (isLt c) (kD rs) (kD rs + 1)
def fX : List Nat → Int64
  | [] => 0
  | c :: rs => cond (isLt c) (wl (fX rs) c) (fX rs)
def nX : List Nat → Int32
  | [] => 0
  | c :: rs => cond (isLt c) (nX rs) (nX rs * Int32.ofNat 10 + (Int32.ofNat c - Int32.ofNat 48))
def gM (lt : Bool) : List Nat → Bool
  | [] => true
  | c :: rs => gM lt rs && (isLt c == lt)
def wM : List Nat → Int64
  | [] => 0
  | c :: rs => if rs.length < 7 then mw (wM rs) c else wM rs
def nM : List Nat → Int32
  | [] => 0
  | c :: rs => if rs.length < 3 then mn (nM rs) c else nM rs
theorem lt_dg {c : Nat} (h : isDg c = true) : isLt c = false := by sorry
theorem both_run (B : Nat → Nat) (lt : Bool) (s : Nat) : ∀ (r a : Nat) (rs : List Nat), a = s + rs.length → ∃ ds : List Nat, xrun B r a (kL rs) (kD rs) (fX rs) (nX rs) = (s + (ds ++ rs).length, kL (ds ++ rs), kD (ds ++ rs), fX (ds ++ rs), nX (ds ++ rs)) ∧ mrun B lt s r a (gM lt rs) (wM rs) (nM rs) = (s + (ds ++ rs).length, gM lt (ds ++ rs), wM (ds ++ rs), nM (ds ++ rs)) ∧ (∀ c ∈ ds, isLt c = true ∨ isDg c = true) ∧ (∀ c ∈ ds, ∃ i, c = B i) ∧ (0 < r → isLt (B a) = true ∨ isDg (B a) = true → B a ∈ ds) := by sorry
/-! ===== names ===== -/
def p5 : List Nat → Int64
  | [] => 0
  | c :: rs => wl (p5 rs) c
def p27 : List Nat → Int64
  | [] => 0
  | c :: rs => mw (p27 rs) c
def vl (rs : List Nat) : Bool := rs.all isLt
theorem kD_0 : ∀ {rs : List Nat}, kD rs = 0 → vl rs = true ∧ fX rs = p5 rs ∧ kL rs = rs.length := by sorry
theorem wM_p : ∀ {rs : List Nat}, rs.length ≤ 7 → wM rs = p27 rs := by sorry
theorem i32_ring (n c : Int32) : n * Int32.ofNat 10 + (c - Int32.ofNat 48) = Int32.ofNat 10 * n + c - Int32.ofNat 48 := by sorry
theorem kL_0 : ∀ {rs : List Nat}, kL rs = 0 → rs.length ≤ 3 → nX rs = nM rs ∧ kD rs = rs.length := by sorry
theorem cLD : ∀ {rs : List Nat}, kL rs + kD rs = rs.length := by sorry
theorem gM_t : ∀ {rs : List Nat}, gM true rs = true ↔ kD rs = 0 := by sorry
theorem gM_f : ∀ {rs : List Nat}, gM false rs = true ↔ kL rs = 0 := by sorry
