/-! ===== class and reference read one TOKEN ===== -/
def km : Nat → Nat
  | 0 => 1
  | 1 => 2
  | 2 => 3
  | 3 => 4
  | _ => 0
def TR (x : Nat × Nat × Nat × Nat × Int64 × Int32) (m : Nat × Nat × Nat × Int32 × Int32 × Int64) : Prop :=
  x.1 = m.1 ∧ x.2.2.1 = m.2.1 ∧ x.2.1 ≤ 4 ∧ m.2.2.1 = km x.2.1 ∧
  (x.2.1 = 1 → ∃ rs : List Nat, vl rs = true ∧ 1 ≤ rs.length ∧ rs.length ≤ 7 ∧ x.2.2.2.2.1 = p5 rs ∧ m.2.2.2.2.2 = p27 rs ∧ x.2.2.2.1 = wix (p5 rs) 32 0) ∧
  (x.2.1 ≠ 1 → x.2.2.2.1 = 0) ∧
  (x.2.1 = 2 → ∃ v, v < 1000 ∧ x.2.2.2.2.2 = Int32.ofNat v ∧ m.2.2.2.1 = Int32.ofNat v) ∧
  (x.2.1 = 3 → ∃ c, c < 256 ∧ x.2.2.2.2.2 = Int32.ofNat c ∧ m.2.2.2.2.1 = Int32.ofNat c)
def nN : List Nat → Nat
  | [] => 0
  | c :: rs => nN rs * 10 + (c - 48)
theorem dg_b {c : Nat} (h : isDg c = true) : 48 ≤ c ∧ c ≤ 57 := by sorry
theorem nX_v : ∀ {rs : List Nat}, (∀ c ∈ rs, isDg c = true) → nX rs = Int32.ofNat (nN rs) ∧ nN rs < 10 ^ rs.length := by sorry
theorem kL_pos {c : Nat} (hc : isLt c = true) : ∀ {rs : List Nat}, c ∈ rs → kL rs ≠ 0 := by sorry
theorem kD_pos {c : Nat} (hc : isLt c = false) : ∀ {rs : List Nat}, c ∈ rs → kD rs ≠ 0 := by sorry
theorem kL_all : ∀ {rs : List Nat}, (∀ c ∈ rs, isLt c = true ∨ isDg c = true) → kL rs = 0 → ∀ c ∈ rs, isDg c = true := by sorry
theorem tok_rel (B : Nat → Nat) (hb : ∀ i, B i < 256) (n lim a : Nat) (ha : a ≤ n) (nu sg : Int32) (wd : Int64) : TR (advV B n lim a) (goV B n lim a nu sg wd) := by sorry
