/-! ===== names and words: both packings are of the same letters ===== -/
def n5 : List Nat → Nat
  | [] => 0
  | c :: rs => 32 * n5 rs + (c - 96)
def n27 : List Nat → Nat
  | [] => 0
  | c :: rs => 27 * n27 rs + (c - 96)
theorem lt_b {c : Nat} (h : isLt c = true) : 97 ≤ c ∧ c ≤ 122 := by sorry
theorem vl_c {c : Nat} {rs : List Nat} (h : vl (c :: rs) = true) : isLt c = true ∧ vl rs = true := by sorry
theorem i64_of {k : Nat} (h : k < 2147483648) : (Int32.ofNat k).toInt64 = Int64.ofNat k := by sorry
theorem wl_n {x c : Nat} (hx : x < 1099511627776) (hc : 97 ≤ c ∧ c ≤ 122) : wl (Int64.ofNat x) c = Int64.ofNat (32 * x + (c - 96)) := by sorry
theorem n5_lt : ∀ {rs : List Nat}, vl rs = true → n5 rs < 32 ^ rs.length := by sorry
theorem n27_lt : ∀ {rs : List Nat}, vl rs = true → n27 rs < 27 ^ rs.length := by sorry
theorem p5_n : ∀ {rs : List Nat}, vl rs = true → rs.length ≤ 7 → p5 rs = Int64.ofNat (n5 rs) := by sorry
theorem p27_n : ∀ {rs : List Nat}, vl rs = true → p27 rs = Int64.ofNat (n27 rs) := by sorry
theorem n5_inj : ∀ {rs ss : List Nat}, vl rs = true → vl ss = true → n5 rs = n5 ss → rs = ss := by sorry
theorem n27_inj : ∀ {rs ss : List Nat}, vl rs = true → vl ss = true → n27 rs = n27 ss → rs = ss := by sorry
theorem p5_inj {rs ss : List Nat} (h1 : vl rs = true) (h2 : vl ss = true) (l1 : rs.length ≤ 7) (l2 : ss.length ≤ 7) (h : p5 rs = p5 ss) : rs = ss := by sorry
theorem p27_inj {rs ss : List Nat} (h1 : vl rs = true) (h2 : vl ss = true) (l1 : rs.length ≤ 7) (l2 : ss.length ≤ 7) (h : p27 rs = p27 ss) : rs = ss := by sorry
