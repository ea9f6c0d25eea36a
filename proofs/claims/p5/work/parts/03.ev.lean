/-! ===== a small machine of its own: cells by their numbers, values as they are; its runs are computed ===== -/
/-- .ref i: the i-th cell that the law's run has made; .retAddr k: the k-th constant outside -/
def ev_v (b : Nat) (en : Nat → Nat) : Value → Value
  | .ref i => .ref (b + i)
  | .retAddr k => .ref (en k)
  | v => v
/-- a cell: an array (its kind, its contents) or an object (its class's number, its fields) -/
abbrev AE : Type := (Nat × (List Int32 ⊕ List Int64 ⊕ List (Option Nat))) ⊕ (Nat × List Value)
def ev_e (b : Nat) (en ac : Nat → Nat) : AE → va_E
  | .inl (t, .inl l) => .inl (ac t, l.length, .inl (fun k => l.getD k 0))
  | .inl (t, .inr (.inl l)) => .inl (ac t, l.length, .inr (.inl (fun k => l.getD k 0)))
  | .inl (t, .inr (.inr l)) => .inl (ac t, l.length, .inr (.inr (.inr (.inr (fun k => (l.getD k none).map (fun i => if t = 4 then en i else b + i))))))
  | .inr (ci, fs) => .inr (ci, fs.map (ev_v b en))
def ev_ws (b : Nat) (en ac : Nat → Nat) (hp : List AE) : va_W := hp.mapIdx (fun i e => (b + i, ev_e b en ac e))
def ev_L (b : Nat) (en : Nat → Nat) (L : List (Nat × Value)) : List (Nat × Value) := L.map (fun q => (q.1, ev_v b en q.2))
def ev_g : List (Nat × Value) → Nat → Option Value
  | [], _ => none
  | q :: L, i => cond (Nat.beq q.1 i) (some q.2) (ev_g L i)
def ev_s1 (L : List (Nat × Value)) (i : Nat) (v : Value) : List (Nat × Value) := (i, v) :: L.filter (fun q => !(q.1 == i) && !(q.1 + 1 == i && q.2.category == 2))
def ev_s2 (L : List (Nat × Value)) (i : Nat) (v : Value) : List (Nat × Value) := (i, v) :: L.filter (fun q => !(q.1 == i) && (!(q.1 == i + 1) && !(q.1 + 1 == i && q.2.category == 2)))
-- what lies on the stack
def ev_i : List Value → Option (Int32 × List Value)
  | .int x :: r => some (x, r)
  | _ => none
def ev_ii : List Value → Option (Int32 × Int32 × List Value)
  | .int y :: .int x :: r => some (y, x, r)
  | _ => none
def ev_l : List Value → Option (Int64 × List Value)
  | .long x :: r => some (x, r)
  | _ => none
def ev_ll : List Value → Option (Int64 × Int64 × List Value)
  | .long y :: .long x :: r => some (y, x, r)
  | _ => none
def ev_il : List Value → Option (Int32 × Int64 × List Value)
  | .int y :: .long x :: r => some (y, x, r)
  | _ => none
def ev_a : List Value → Option (Nat × List Value)
  | .ref a :: r => some (a, r)
  | _ => none
def ev_ia : List Value → Option (Int32 × Nat × List Value)
  | .int i :: .ref a :: r => some (i, a, r)
  | _ => none
def ev_iia : List Value → Option (Int32 × Int32 × Nat × List Value)
  | .int v :: .int i :: .ref a :: r => some (v, i, a, r)
  | _ => none
def ev_lia : List Value → Option (Int64 × Int32 × Nat × List Value)
  | .long v :: .int i :: .ref a :: r => some (v, i, a, r)
  | _ => none
def ev_aia : List Value → Option (Nat × Int32 × Nat × List Value)
  | .ref v :: .int i :: .ref a :: r => some (v, i, a, r)
  | _ => none
def ev_kia : List Value → Option (Nat × Int32 × Nat × List Value)
  | .retAddr v :: .int i :: .ref a :: r => some (v, i, a, r)
  | _ => none
def ev_va : List Value → Option (Value × Nat × List Value)
  | v :: .ref a :: r => some (v, a, r)
  | _ => none
theorem ev_i_ok {st : List Value} {x : Int32} {r : List Value} (h : ev_i st = some (x, r)) : st = .int x :: r := by
  unfold ev_i at h; split at h <;> first | (cases h; rfl) | cases h
theorem ev_ii_ok {st : List Value} {y x : Int32} {r : List Value} (h : ev_ii st = some (y, x, r)) : st = .int y :: .int x :: r := by
  unfold ev_ii at h; split at h <;> first | (cases h; rfl) | cases h
theorem ev_l_ok {st : List Value} {x : Int64} {r : List Value} (h : ev_l st = some (x, r)) : st = .long x :: r := by
  unfold ev_l at h; split at h <;> first | (cases h; rfl) | cases h
theorem ev_ll_ok {st : List Value} {y x : Int64} {r : List Value} (h : ev_ll st = some (y, x, r)) : st = .long y :: .long x :: r := by
  unfold ev_ll at h; split at h <;> first | (cases h; rfl) | cases h
theorem ev_il_ok {st : List Value} {y : Int32} {x : Int64} {r : List Value} (h : ev_il st = some (y, x, r)) : st = .int y :: .long x :: r := by
  unfold ev_il at h; split at h <;> first | (cases h; rfl) | cases h
theorem ev_a_ok {st : List Value} {x : Nat} {r : List Value} (h : ev_a st = some (x, r)) : st = .ref x :: r := by
  unfold ev_a at h; split at h <;> first | (cases h; rfl) | cases h
theorem ev_ia_ok {st : List Value} {i : Int32} {a : Nat} {r : List Value} (h : ev_ia st = some (i, a, r)) : st = .int i :: .ref a :: r := by
  unfold ev_ia at h; split at h <;> first | (cases h; rfl) | cases h
theorem ev_iia_ok {st : List Value} {v i : Int32} {a : Nat} {r : List Value} (h : ev_iia st = some (v, i, a, r)) : st = .int v :: .int i :: .ref a :: r := by
  unfold ev_iia at h; split at h <;> first | (cases h; rfl) | cases h
theorem ev_lia_ok {st : List Value} {v : Int64} {i : Int32} {a : Nat} {r : List Value} (h : ev_lia st = some (v, i, a, r)) : st = .long v :: .int i :: .ref a :: r := by
  unfold ev_lia at h; split at h <;> first | (cases h; rfl) | cases h
theorem ev_aia_ok {st : List Value} {v : Nat} {i : Int32} {a : Nat} {r : List Value} (h : ev_aia st = some (v, i, a, r)) : st = .ref v :: .int i :: .ref a :: r := by
  unfold ev_aia at h; split at h <;> first | (cases h; rfl) | cases h
theorem ev_kia_ok {st : List Value} {v : Nat} {i : Int32} {a : Nat} {r : List Value} (h : ev_kia st = some (v, i, a, r)) : st = .retAddr v :: .int i :: .ref a :: r := by
  unfold ev_kia at h; split at h <;> first | (cases h; rfl) | cases h
theorem ev_va_ok {st : List Value} {v : Value} {a : Nat} {r : List Value} (h : ev_va st = some (v, a, r)) : st = v :: .ref a :: r := by
  unfold ev_va at h; split at h <;> first | (cases h; rfl) | cases h
-- what lies in the cells
def ev_gf (hp : List AE) (a x y : Nat) : Option Value := match hp[a]? with
  | some (.inr (ci, fs)) => cond (Nat.beq ci x) (fs[y]?) none
  | _ => none
def ev_ob (hp : List AE) (a x : Nat) : Option (List Value) := match hp[a]? with
  | some (.inr (ci, fs)) => cond (Nat.beq ci x) (some fs) none
  | _ => none
def ev_ai (hp : List AE) (a : Nat) : Option (Nat × List Int32) := match hp[a]? with
  | some (.inl (t, .inl l)) => some (t, l)
  | _ => none
def ev_al (hp : List AE) (a : Nat) : Option (Nat × List Int64) := match hp[a]? with
  | some (.inl (t, .inr (.inl l))) => some (t, l)
  | _ => none
def ev_ar (hp : List AE) (a : Nat) : Option (Nat × List (Option Nat)) := match hp[a]? with
  | some (.inl (t, .inr (.inr l))) => some (t, l)
  | _ => none
def ev_an (hp : List AE) (a : Nat) : Option (Nat × Nat) := match hp[a]? with
  | some (.inl (t, .inl l)) => some (t, l.length)
  | some (.inl (t, .inr (.inl l))) => some (t, l.length)
  | some (.inl (t, .inr (.inr l))) => some (t, l.length)
  | _ => none
theorem ev_gf_ok {hp : List AE} {a x y : Nat} {v : Value} (h : ev_gf hp a x y = some v) : ∃ fs, hp[a]? = some (.inr (x, fs)) ∧ fs[y]? = some v := by
  unfold ev_gf at h
  split at h
  · rename_i ci fs hq
    cases hc : Nat.beq ci x with
    | true => rw [hc] at h; rw [Nat.eq_of_beq_eq_true hc] at hq; exact ⟨fs, hq, h⟩
    | false => rw [hc] at h; cases h
  · cases h
theorem ev_ob_ok {hp : List AE} {a x : Nat} {fs : List Value} (h : ev_ob hp a x = some fs) : hp[a]? = some (.inr (x, fs)) := by
  unfold ev_ob at h
  split at h
  · rename_i ci fs hq
    cases hc : Nat.beq ci x with
    | true => rw [hc] at h; rw [Nat.eq_of_beq_eq_true hc] at hq; cases h; exact hq
    | false => rw [hc] at h; cases h
  · cases h
theorem ev_ai_ok {hp : List AE} {a t : Nat} {l : List Int32} (h : ev_ai hp a = some (t, l)) : hp[a]? = some (.inl (t, .inl l)) := by
  unfold ev_ai at h; split at h
  · rename_i hq; cases h; exact hq
  · cases h
theorem ev_al_ok {hp : List AE} {a t : Nat} {l : List Int64} (h : ev_al hp a = some (t, l)) : hp[a]? = some (.inl (t, .inr (.inl l))) := by
  unfold ev_al at h; split at h
  · rename_i hq; cases h; exact hq
  · cases h
theorem ev_ar_ok {hp : List AE} {a t : Nat} {l : List (Option Nat)} (h : ev_ar hp a = some (t, l)) : hp[a]? = some (.inl (t, .inr (.inr l))) := by
  unfold ev_ar at h; split at h
  · rename_i hq; cases h; exact hq
  · cases h
theorem ev_an_ok {b : Nat} {en ac : Nat → Nat} {hp : List AE} {a t n : Nat} (h : ev_an hp a = some (t, n)) : ∃ (x : AE) (z : vp_A), hp[a]? = some x ∧ ev_e b en ac x = .inl (ac t, z) ∧ z.1 = n := by
  unfold ev_an at h; split at h
  · rename_i hq; cases h; exact ⟨_, _, hq, rfl, rfl⟩
  · rename_i hq; cases h; exact ⟨_, _, hq, rfl, rfl⟩
  · rename_i hq; cases h; exact ⟨_, _, hq, rfl, rfl⟩
  · cases h
/-- a value that a field of this type can take as it is -/
def ev_f : FieldType → Value → Bool
  | .int, .int _ => true
  | .long, .long _ => true
  | .boolean, .int x => x == 0 || x == 1
  | .object _, .ref _ => true
  | .object _, .retAddr _ => true
  | .object _, .null => true
  | .array _, .ref _ => true
  | .array _, .null => true
  | _, _ => false
/-- what a new object holds -/
def ev_d : FieldType → Value
  | .long => .long 0
  | .object _ => .null
  | .array _ => .null
  | _ => .int 0
def ev_new (x : Nat) : List Value := (List.range (NN x)).map (fun k => ev_d (TY x k))
def ev_nt : ArrayType → Option (Nat × FieldType)
  | .byte => some (0, .byte)
  | .int => some (1, .int)
  | .long => some (2, .long)
  | .boolean => some (3, .boolean)
  | _ => none
def ev_na (t n : Nat) : AE := if t = 2 then .inl (t, .inr (.inl (List.replicate n 0))) else .inl (t, .inl (List.replicate n 0))
def ev_cp {α : Type} (z : α) (f g : List α) (sp dp n : Nat) : List α := (List.range g.length).map (fun k => cond (Nat.ble dp k && Nat.blt k (dp + n)) (f.getD (sp + (k - dp)) z) (g.getD k z))
/-- what lies at a place of an array, if it is one -/
def ev_rd {α : Type} (l : List α) (i : Int32) : Option α := if i < 0 then none else l[i.toNatClampNeg]?
/-- the place in an array, if it is one -/
def ev_ix (i : Int32) (n : Nat) : Option Nat := if i < 0 ∨ n ≤ i.toNatClampNeg then none else some i.toNatClampNeg
def ev_tg (pc : Nat) (off : Int) : Option Nat := if 0 ≤ (pc : Int) + off then some ((pc : Int) + off).toNat else none
def ev_ro (t : Nat) (r : Option Nat) : Value := match r with
  | none => .null
  | some i => if t = 4 then .retAddr i else .ref i
def ev_c5 : List Value → Option (Int32 × Int32 × Nat × Int32 × Nat × List Value)
  | .int n :: .int dp :: .ref a1 :: .int sp :: .ref a0 :: r => some (n, dp, a1, sp, a0, r)
  | _ => none
theorem ev_c5_ok {st : List Value} {n dp sp : Int32} {a1 a0 : Nat} {r : List Value} (h : ev_c5 st = some (n, dp, a1, sp, a0, r)) : st = .int n :: .int dp :: .ref a1 :: .int sp :: .ref a0 :: r := by
  unfold ev_c5 at h; split at h <;> first | (cases h; rfl) | cases h
/-- System.arraycopy of ints (longs) of one kind of array -/
def ev_cy (hp : List AE) (n dp : Int32) (a1 : Nat) (sp : Int32) (a0 : Nat) : Option (List AE) :=
  if n < 0 ∨ dp < 0 ∨ sp < 0 then none else
  match hp[a0]?, hp[a1]? with
  | some (.inl (t0, .inl f)), some (.inl (t1, .inl g)) => if t0 = 1 ∧ t1 = 1 ∧ sp.toNatClampNeg + n.toNatClampNeg ≤ f.length ∧ dp.toNatClampNeg + n.toNatClampNeg ≤ g.length then some (hp.set a1 (.inl (1, .inl (ev_cp 0 f g sp.toNatClampNeg dp.toNatClampNeg n.toNatClampNeg)))) else none
  | some (.inl (t0, .inr (.inl f))), some (.inl (t1, .inr (.inl g))) => if t0 = 2 ∧ t1 = 2 ∧ sp.toNatClampNeg + n.toNatClampNeg ≤ f.length ∧ dp.toNatClampNeg + n.toNatClampNeg ≤ g.length then some (hp.set a1 (.inl (2, .inr (.inl (ev_cp 0 f g sp.toNatClampNeg dp.toNatClampNeg n.toNatClampNeg))))) else none
  | _, _ => none
/-- the constants of Word, and what lies in LeftAnswers$1's array -/
def ev_nm : List String := ["NOTHING", "NAME", "PERSON", "GLOVED", "DEED", "BOTH", "SEES", "FOND", "LAW", "CELL", "IDEAS", "DOES", "WEDS", "PARTS", "GLOVES", "BARES", "DAY", "RIGHT", "LEFT", "TWO", "OR", "AND", "NOT", "JAILED", "WED", "BUSY", "SEEN", "TO", "OWNS", "BLAME", "IDEA", "NUMBER"]
def ev_or : List Int32 := [0, 1, 2, 3, 4, 5, 6, 7, 8, 9, 10, 11, 12, 13, 14, 15, 16, 17, 18, 19, 20, 21, 22, 23, 24, 25, 26, 27, 28, 29, 30, 31]
def ev_sw : List Int32 := [0, 0, 1, 23, 2, 0, 3, 4, 5, 6, 7, 8, 9, 10, 11, 12, 0, 13, 14, 15, 0, 0, 16, 22, 24, 25, 26, 17, 18, 19, 20, 21]
