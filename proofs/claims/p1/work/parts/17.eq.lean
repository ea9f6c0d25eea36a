/-! ===== a run's end, compared ===== -/
def ae_eq : AE → AE → Bool
  | .inl (t, .inl l), .inl (u, .inl m) => Nat.beq t u && decide (l = m)
  | .inl (t, .inr (.inl l)), .inl (u, .inr (.inl m)) => Nat.beq t u && decide (l = m)
  | .inl (t, .inr (.inr l)), .inl (u, .inr (.inr m)) => Nat.beq t u && decide (l = m)
  | .inr (t, l), .inr (u, m) => Nat.beq t u && decide (l = m)
  | _, _ => false
theorem ae_eq_ok {a b : AE} (h : ae_eq a b = true) : a = b := by
  unfold ae_eq at h
  split at h
  all_goals first
    | (rw [Bool.and_eq_true] at h
       have h1 := Nat.eq_of_beq_eq_true h.1
       have h2 := of_decide_eq_true h.2
       subst h1; subst h2; rfl)
    | cases h
def hp_eq : List AE → List AE → Bool
  | [], [] => true
  | a :: l, b :: m => ae_eq a b && hp_eq l m
  | _, _ => false
theorem hp_eq_ok : ∀ {l m : List AE}, hp_eq l m = true → l = m
  | [], [], _ => rfl
  | a :: l, b :: m, h => by
    unfold hp_eq at h
    rw [Bool.and_eq_true] at h
    rw [ae_eq_ok h.1, hp_eq_ok h.2]
  | [], _ :: _, h => by cases h
  | _ :: _, [], h => by cases h
def ev_is (o : Option ev_R) (r : Option Value) (h : List AE) : Bool := match o with
  | some (r', h') => decide (r' = r) && hp_eq h' h
  | none => false
theorem ev_is_ok {o : Option ev_R} {r : Option Value} {h : List AE} (q : ev_is o r h = true) : o = some (r, h) := by
  unfold ev_is at q
  split at q
  · rw [Bool.and_eq_true] at q
    have h1 := of_decide_eq_true q.1
    have h2 := hp_eq_ok q.2
    subst h1; subst h2; rfl
  · cases q
def ev_isv (o : Option ev_R) (v : Value) : Bool := match o with
  | some (some w, _) => decide (w = v)
  | _ => false
theorem ev_isv_ok {o : Option ev_R} {v : Value} (h : ev_isv o v = true) : ∃ hp, o = some (some v, hp) := by
  unfold ev_isv at h
  split at h
  · rename_i w hp
    have h1 := of_decide_eq_true h
    subst h1
    exact ⟨hp, rfl⟩
  · cases h
