/-! ===== a run's end, compared ===== -/
def ae_eq : AE → AE → Bool
  | .inl (t, .inl l), .inl (u, .inl m) => Nat.beq t u && decide (l = m)
  | .inl (t, .inr (.inl l)), .inl (u, .inr (.inl m)) => Nat.beq t u && decide (l = m)
  | .inl (t, .inr (.inr l)), .inl (u, .inr (.inr m)) => Nat.beq t u && decide (l = m)
  | .inr (t, l), .inr (u, m) => Nat.beq t u && decide (l = m)
  | _, _ => false
theorem ae_eq_ok {a b : AE} (h : ae_eq a b = true) : a = b := by
  unfold ae_eq at h
  split at h
  all_goals first
    | (rw [Bool.and_eq_true] at h
       have h1 := Nat.eq_of_beq_eq_true h.1
       have h2 := of_decide_eq_true h.2
       subst h1; subst h2; rfl)
    | cases h
def hp_eq : List AE → List AE → Bool
  | [], [] => true
  | a :: l, b :: m => ae_eq a b && hp_eq l m
  | _, _ => false
theorem hp_eq_ok : ∀ {l m : List AE}, hp_eq l m = true → l = m
  | [], [], _ => rfl
  | a :: l, b :: m, h => by
    unfold hp_eq at h
    rw [Bool.and_eq_true] at h
    rw [ae_eq_ok h.1, hp_eq_ok h.2]
  | [], _ :: _, h => by cases h
  | _ :: _, [], h => by cases h
def ev_is (o : Option ev_R) (r : Option Value) (h : List AE) : Bool := match o with
  | some (r', h') => decide (r' = r) && hp_eq h' h
  | none => false
theorem ev_is_ok {o : Option ev_R} {r : Option Value} {h : List AE} (q : ev_is o r h = true) : o = some (r, h) := by
  unfold ev_is at q
  split at q
  · rw [Bool.and_eq_true] at q
    have h1 := of_decide_eq_true q.1
    have h2 := hp_eq_ok q.2
    subst h1; subst h2; rfl
  · cases q
def ev_isv (o : Option ev_R) (v : Value) : Bool := match o with
  | some (some w, _) => decide (w = v)
  | _ => false
theorem ev_isv_ok {o : Option ev_R} {v : Value} (h : ev_isv o v = true) : ∃ hp, o = some (some v, hp) := by
  unfold ev_isv at h
  split at h
  · rename_i w hp
    have h1 := of_decide_eq_true h
    subst h1
    exact ⟨hp, rfl⟩
  · cases h
/-! ===== the objects as they are made: printed by my program, held by the kernel ===== -/
def ev_hA : List AE := [.inr (10, [.ref 1, .ref 3, .ref 13, .ref 23, .ref 31, .ref 39, .ref 105, .ref 110, .ref 115, .ref 120, .ref 125, .ref 129, .ref 131, .int 0, .int 0, .int (-1), .int (-1)]),
  .inr (9, [.ref 2, .int 0, .int 0, .int 0, .int 0, .int 0, .retAddr 0, .long 0, .int 0, .int 0, .int 0, .int 0]),
  .inl (0, .inl (List.replicate 940 0)),
  .inr (1, [.int 0, .int 0, .int 10, .int 3, .int 5, .int 0, .int 0, .ref 4, .ref 5, .ref 6, .ref 9, .ref 10, .ref 11, .ref 12, .ref 7, .ref 8]),
  .inl (2, .inr (.inl ([0, 0, 0, 0, 0, 0, 0]))),
  .inl (1, .inl ([0, 0, 0, 0, 0, 0, 0])),
  .inl (1, .inl ([0, 0, 0, 0, 0, 0, 0])),
  .inl (1, .inl ([0, 0, 0, 0, 0, 0, 0])),
  .inl (1, .inl (List.replicate 49 0)),
  .inl (2, .inr (.inl (List.replicate 8 0))),
  .inl (1, .inl (List.replicate 8 0)),
  .inl (1, .inl (List.replicate 8 0)),
  .inl (1, .inl (List.replicate 8 0)),
  .inr (1, [.int 0, .int 0, .int 10, .int 3, .int 5, .int 0, .int 0, .ref 14, .ref 15, .ref 16, .ref 19, .ref 20, .ref 21, .ref 22, .ref 17, .ref 18]),
  .inl (2, .inr (.inl ([0, 0, 0, 0, 0, 0, 0]))),
  .inl (1, .inl ([0, 0, 0, 0, 0, 0, 0])),
  .inl (1, .inl ([0, 0, 0, 0, 0, 0, 0])),
  .inl (1, .inl ([0, 0, 0, 0, 0, 0, 0])),
  .inl (1, .inl (List.replicate 49 0)),
  .inl (2, .inr (.inl (List.replicate 8 0))),
  .inl (1, .inl (List.replicate 8 0)),
  .inl (1, .inl (List.replicate 8 0)),
  .inl (1, .inl (List.replicate 8 0)),
  .inr (3, [.int 0, .int 0, .int 0, .int 0, .int 0, .ref 24, .ref 25, .ref 26, .ref 27, .ref 28, .ref 29, .ref 30]),
  .inl (1, .inl ([0, 0, 0, 0, 0, 0, 0])),
  .inl (1, .inl ([0, 0, 0, 0, 0, 0, 0])),
  .inl (1, .inl ([0, 0, 0, 0, 0, 0, 0])),
  .inl (1, .inl ([0, 0, 0, 0, 0, 0, 0])),
  .inl (1, .inl ([(-1), (-1), (-1), (-1), (-1), (-1), (-1)])),
  .inl (1, .inl ([0, 0, 0, 0, 0, 0, 0])),
  .inl (1, .inl (List.replicate 8 0)),
  .inr (3, [.int 0, .int 0, .int 0, .int 0, .int 0, .ref 32, .ref 33, .ref 34, .ref 35, .ref 36, .ref 37, .ref 38]),
  .inl (1, .inl ([0, 0, 0, 0, 0, 0, 0])),
  .inl (1, .inl ([0, 0, 0, 0, 0, 0, 0])),
  .inl (1, .inl ([0, 0, 0, 0, 0, 0, 0])),
  .inl (1, .inl ([0, 0, 0, 0, 0, 0, 0])),
  .inl (1, .inl ([(-1), (-1), (-1), (-1), (-1), (-1), (-1)])),
  .inl (1, .inl ([0, 0, 0, 0, 0, 0, 0])),
  .inl (1, .inl (List.replicate 8 0)),
  .inr (6, [.ref 40, .int 0, .int 0]),
  .inl (5, .inr (.inr ([some 41, some 49, some 57, some 65, some 73, some 81, some 89, some 97]))),
  .inr (3, [.int 0, .int 0, .int 0, .int 0, .int 0, .ref 42, .ref 43, .ref 44, .ref 45, .ref 46, .ref 47, .ref 48]),
  .inl (1, .inl ([0, 0, 0, 0, 0, 0, 0])),
  .inl (1, .inl ([0, 0, 0, 0, 0, 0, 0])),
  .inl (1, .inl ([0, 0, 0, 0, 0, 0, 0])),
  .inl (1, .inl ([0, 0, 0, 0, 0, 0, 0])),
  .inl (1, .inl ([(-1), (-1), (-1), (-1), (-1), (-1), (-1)])),
  .inl (1, .inl ([0, 0, 0, 0, 0, 0, 0])),
  .inl (1, .inl (List.replicate 8 0)),
  .inr (3, [.int 0, .int 0, .int 0, .int 0, .int 0, .ref 50, .ref 51, .ref 52, .ref 53, .ref 54, .ref 55, .ref 56]),
  .inl (1, .inl ([0, 0, 0, 0, 0, 0, 0])),
  .inl (1, .inl ([0, 0, 0, 0, 0, 0, 0])),
  .inl (1, .inl ([0, 0, 0, 0, 0, 0, 0])),
  .inl (1, .inl ([0, 0, 0, 0, 0, 0, 0])),
  .inl (1, .inl ([(-1), (-1), (-1), (-1), (-1), (-1), (-1)])),
  .inl (1, .inl ([0, 0, 0, 0, 0, 0, 0])),
  .inl (1, .inl (List.replicate 8 0)),
  .inr (3, [.int 0, .int 0, .int 0, .int 0, .int 0, .ref 58, .ref 59, .ref 60, .ref 61, .ref 62, .ref 63, .ref 64]),
  .inl (1, .inl ([0, 0, 0, 0, 0, 0, 0])),
  .inl (1, .inl ([0, 0, 0, 0, 0, 0, 0])),
  .inl (1, .inl ([0, 0, 0, 0, 0, 0, 0])),
  .inl (1, .inl ([0, 0, 0, 0, 0, 0, 0])),
  .inl (1, .inl ([(-1), (-1), (-1), (-1), (-1), (-1), (-1)])),
  .inl (1, .inl ([0, 0, 0, 0, 0, 0, 0])),
  .inl (1, .inl (List.replicate 8 0)),
  .inr (3, [.int 0, .int 0, .int 0, .int 0, .int 0, .ref 66, .ref 67, .ref 68, .ref 69, .ref 70, .ref 71, .ref 72]),
  .inl (1, .inl ([0, 0, 0, 0, 0, 0, 0])),
  .inl (1, .inl ([0, 0, 0, 0, 0, 0, 0])),
  .inl (1, .inl ([0, 0, 0, 0, 0, 0, 0])),
  .inl (1, .inl ([0, 0, 0, 0, 0, 0, 0])),
  .inl (1, .inl ([(-1), (-1), (-1), (-1), (-1), (-1), (-1)])),
  .inl (1, .inl ([0, 0, 0, 0, 0, 0, 0])),
  .inl (1, .inl (List.replicate 8 0)),
  .inr (3, [.int 0, .int 0, .int 0, .int 0, .int 0, .ref 74, .ref 75, .ref 76, .ref 77, .ref 78, .ref 79, .ref 80]),
  .inl (1, .inl ([0, 0, 0, 0, 0, 0, 0])),
  .inl (1, .inl ([0, 0, 0, 0, 0, 0, 0])),
  .inl (1, .inl ([0, 0, 0, 0, 0, 0, 0])),
  .inl (1, .inl ([0, 0, 0, 0, 0, 0, 0])),
  .inl (1, .inl ([(-1), (-1), (-1), (-1), (-1), (-1), (-1)])),
  .inl (1, .inl ([0, 0, 0, 0, 0, 0, 0])),
  .inl (1, .inl (List.replicate 8 0)),
  .inr (3, [.int 0, .int 0, .int 0, .int 0, .int 0, .ref 82, .ref 83, .ref 84, .ref 85, .ref 86, .ref 87, .ref 88]),
  .inl (1, .inl ([0, 0, 0, 0, 0, 0, 0])),
  .inl (1, .inl ([0, 0, 0, 0, 0, 0, 0])),
  .inl (1, .inl ([0, 0, 0, 0, 0, 0, 0])),
  .inl (1, .inl ([0, 0, 0, 0, 0, 0, 0])),
  .inl (1, .inl ([(-1), (-1), (-1), (-1), (-1), (-1), (-1)])),
  .inl (1, .inl ([0, 0, 0, 0, 0, 0, 0])),
  .inl (1, .inl (List.replicate 8 0)),
  .inr (3, [.int 0, .int 0, .int 0, .int 0, .int 0, .ref 90, .ref 91, .ref 92, .ref 93, .ref 94, .ref 95, .ref 96]),
  .inl (1, .inl ([0, 0, 0, 0, 0, 0, 0])),
  .inl (1, .inl ([0, 0, 0, 0, 0, 0, 0])),
  .inl (1, .inl ([0, 0, 0, 0, 0, 0, 0])),
  .inl (1, .inl ([0, 0, 0, 0, 0, 0, 0])),
  .inl (1, .inl ([(-1), (-1), (-1), (-1), (-1), (-1), (-1)])),
  .inl (1, .inl ([0, 0, 0, 0, 0, 0, 0])),
  .inl (1, .inl (List.replicate 8 0)),
  .inr (3, [.int 0, .int 0, .int 0, .int 0, .int 0, .ref 98, .ref 99, .ref 100, .ref 101, .ref 102, .ref 103, .ref 104]),
  .inl (1, .inl ([0, 0, 0, 0, 0, 0, 0])),
  .inl (1, .inl ([0, 0, 0, 0, 0, 0, 0])),
  .inl (1, .inl ([0, 0, 0, 0, 0, 0, 0])),
  .inl (1, .inl ([0, 0, 0, 0, 0, 0, 0])),
  .inl (1, .inl ([(-1), (-1), (-1), (-1), (-1), (-1), (-1)])),
  .inl (1, .inl ([0, 0, 0, 0, 0, 0, 0])),
  .inl (1, .inl (List.replicate 8 0)),
  .inr (0, [.ref 106, .ref 107, .ref 108, .ref 109, .int 0, .int 0, .int 0, .int 0, .int 0, .int 0, .int 0]),
  .inl (1, .inl (List.replicate 40 0)),
  .inl (1, .inl (List.replicate 40 0)),
  .inl (1, .inl (List.replicate 40 0)),
  .inl (1, .inl (List.replicate 40 0)),
  .inr (7, [.int 0, .int 0, .ref 111, .ref 112, .ref 113, .ref 114]),
  .inl (4, .inr (.inr (List.replicate 40 (some 0)))),
  .inl (1, .inl (List.replicate 40 0)),
  .inl (1, .inl (List.replicate 40 0)),
  .inl (1, .inl (List.replicate 40 0)),
  .inr (7, [.int 0, .int 0, .ref 116, .ref 117, .ref 118, .ref 119]),
  .inl (4, .inr (.inr (List.replicate 40 (some 0)))),
  .inl (1, .inl (List.replicate 40 0)),
  .inl (1, .inl (List.replicate 40 0)),
  .inl (1, .inl (List.replicate 40 0)),
  .inr (5, [.ref 121, .ref 122, .ref 123, .ref 124, .int 0, .int 0]),
  .inl (1, .inl ([0, 0, 0, 0])),
  .inl (1, .inl ([0, 0, 0, 0, 0])),
  .inl (1, .inl ([0, 0, 0, 0])),
  .inl (1, .inl ([0, 0, 0, 0])),
  .inr (4, [.ref 126, .ref 127, .ref 128, .int 0, .int 0]),
  .inl (1, .inl ([(-1), (-1), (-1), (-1), (-1), (-1), (-1)])),
  .inl (1, .inl ([0, 0, 0, 0, 0, 0, 0])),
  .inl (1, .inl (List.replicate 49 0)),
  .inr (8, [.ref 130, .int 0]),
  .inl (0, .inl (List.replicate 64 0)),
  .inl (6, .inr (.inr ([some 132, some 156]))),
  .inr (2, [.int 0, .ref 133, .ref 143, .ref 151]),
  .inr (1, [.int 0, .int 0, .int 10, .int 3, .int 5, .int 0, .int 0, .ref 134, .ref 135, .ref 136, .ref 139, .ref 140, .ref 141, .ref 142, .ref 137, .ref 138]),
  .inl (2, .inr (.inl ([0, 0, 0, 0, 0, 0, 0]))),
  .inl (1, .inl ([0, 0, 0, 0, 0, 0, 0])),
  .inl (1, .inl ([0, 0, 0, 0, 0, 0, 0])),
  .inl (1, .inl ([0, 0, 0, 0, 0, 0, 0])),
  .inl (1, .inl (List.replicate 49 0)),
  .inl (2, .inr (.inl (List.replicate 8 0))),
  .inl (1, .inl (List.replicate 8 0)),
  .inl (1, .inl (List.replicate 8 0)),
  .inl (1, .inl (List.replicate 8 0)),
  .inr (3, [.int 0, .int 0, .int 0, .int 0, .int 0, .ref 144, .ref 145, .ref 146, .ref 147, .ref 148, .ref 149, .ref 150]),
  .inl (1, .inl ([0, 0, 0, 0, 0, 0, 0])),
  .inl (1, .inl ([0, 0, 0, 0, 0, 0, 0])),
  .inl (1, .inl ([0, 0, 0, 0, 0, 0, 0])),
  .inl (1, .inl ([0, 0, 0, 0, 0, 0, 0])),
  .inl (1, .inl ([(-1), (-1), (-1), (-1), (-1), (-1), (-1)])),
  .inl (1, .inl ([0, 0, 0, 0, 0, 0, 0])),
  .inl (1, .inl (List.replicate 8 0)),
  .inr (7, [.int 0, .int 0, .ref 152, .ref 153, .ref 154, .ref 155]),
  .inl (4, .inr (.inr (List.replicate 40 (some 0)))),
  .inl (1, .inl (List.replicate 40 0)),
  .inl (1, .inl (List.replicate 40 0)),
  .inl (1, .inl (List.replicate 40 0)),
  .inr (2, [.int 0, .ref 157, .ref 167, .ref 175]),
  .inr (1, [.int 0, .int 0, .int 10, .int 3, .int 5, .int 0, .int 0, .ref 158, .ref 159, .ref 160, .ref 163, .ref 164, .ref 165, .ref 166, .ref 161, .ref 162]),
  .inl (2, .inr (.inl ([0, 0, 0, 0, 0, 0, 0]))),
  .inl (1, .inl ([0, 0, 0, 0, 0, 0, 0])),
  .inl (1, .inl ([0, 0, 0, 0, 0, 0, 0])),
  .inl (1, .inl ([0, 0, 0, 0, 0, 0, 0])),
  .inl (1, .inl (List.replicate 49 0)),
  .inl (2, .inr (.inl (List.replicate 8 0))),
  .inl (1, .inl (List.replicate 8 0)),
  .inl (1, .inl (List.replicate 8 0)),
  .inl (1, .inl (List.replicate 8 0)),
  .inr (3, [.int 0, .int 0, .int 0, .int 0, .int 0, .ref 168, .ref 169, .ref 170, .ref 171, .ref 172, .ref 173, .ref 174]),
  .inl (1, .inl ([0, 0, 0, 0, 0, 0, 0])),
  .inl (1, .inl ([0, 0, 0, 0, 0, 0, 0])),
  .inl (1, .inl ([0, 0, 0, 0, 0, 0, 0])),
  .inl (1, .inl ([0, 0, 0, 0, 0, 0, 0])),
  .inl (1, .inl ([(-1), (-1), (-1), (-1), (-1), (-1), (-1)])),
  .inl (1, .inl ([0, 0, 0, 0, 0, 0, 0])),
  .inl (1, .inl (List.replicate 8 0)),
  .inr (7, [.int 0, .int 0, .ref 176, .ref 177, .ref 178, .ref 179]),
  .inl (4, .inr (.inr (List.replicate 40 (some 0)))),
  .inl (1, .inl (List.replicate 40 0)),
  .inl (1, .inl (List.replicate 40 0)),
  .inl (1, .inl (List.replicate 40 0))]
def ev_hN : List AE := [.inr (11, [.int 0, .ref 181, .int 0, .int 0, .int 0, .int 0, .int 0, .int 0, .int 0, .int 0, .int 0, .int 0, .long 0, .int 0, .ref 182, .ref 183, .ref 184, .ref 185, .ref 186, .ref 187, .ref 188, .ref 189, .ref 190, .ref 191, .int 0, .ref 192, .ref 193, .ref 194, .int 0, .int 0, .ref 195, .ref 196, .int 0, .int (-1), .int (-1), .ref 197, .ref 198, .int 0, .int 0, .int 0, .ref 199, .int 0, .int 0, .ref 200, .ref 201, .int 0, .int 0, .ref 202, .int 0, .int 0, .int 0, .int 0]),
  .inl (1, .inl (List.replicate 940 0)),
  .inl (1, .inl ([0, 0, 10, 3, 5] ++ List.replicate 127 0 ++ [(-1), (-1), (-1), (-1), (-1), (-1), (-1)] ++ List.replicate 257 0)),
  .inl (1, .inl (List.replicate 101 0)),
  .inl (1, .inl (List.replicate 792 0)),
  .inl (1, .inl (List.replicate 424 0)),
  .inl (1, .inl (List.replicate 53 0)),
  .inl (2, .inr (.inl (List.replicate 15 0))),
  .inl (2, .inr (.inl (List.replicate 15 0))),
  .inl (2, .inr (.inl (List.replicate 30 0))),
  .inl (3, .inl ([0, 0])),
  .inl (3, .inl ([0, 0, 0])),
  .inl (1, .inl ([0, 0, 0, 0])),
  .inl (1, .inl ([0, 0, 0, 0])),
  .inl (1, .inl ([0, 0, 0, 0, 0, 0, 0])),
  .inl (1, .inl (List.replicate 21 0)),
  .inl (1, .inl (List.replicate 21 0)),
  .inl (1, .inl ([0, 0, 0, 0, 0, 0, 0])),
  .inl (1, .inl ([0, 0, 0, 0, 0, 0, 0])),
  .inl (1, .inl (List.replicate 64 0)),
  .inl (1, .inl (List.replicate 160 0)),
  .inl (1, .inl ([0, 0, 0, 0])),
  .inl (1, .inl (List.replicate 240 0))]
def ev_hB : List AE := ev_hA ++ (ev_hN ++ [.inl (2, .inr (.inl [0]))])
/-! ===== branches by their conditions ===== -/
theorem wk_cT {p : Program} {l : Launch} {e : Env} {R : Room} {s : State} {m : MethodId} {args : Array Value} {below : List Frame} {meth : Method} {c : Code} {Q : State → Prop} {b : Nat} {en ac : Nat → Nat} {D : va_G} {M : MT} {mi k ks t f : Nat} {L : List (Nat × Value)} {st : List Value} {hp : List AE} {P : Prop} {hd : Decidable P} (h : P) (w : Wk p l e R s m args below meth c b en ac D M mi Q t L st hp k ks) : Wk p l e R s m args below meth c b en ac D M mi Q (@ite Nat P hd t f) L st hp k ks := by
  rw [if_pos h]; exact w
theorem wk_cF {p : Program} {l : Launch} {e : Env} {R : Room} {s : State} {m : MethodId} {args : Array Value} {below : List Frame} {meth : Method} {c : Code} {Q : State → Prop} {b : Nat} {en ac : Nat → Nat} {D : va_G} {M : MT} {mi k ks t f : Nat} {L : List (Nat × Value)} {st : List Value} {hp : List AE} {P : Prop} {hd : Decidable P} (h : ¬ P) (w : Wk p l e R s m args below meth c b en ac D M mi Q f L st hp k ks) : Wk p l e R s m args below meth c b en ac D M mi Q (@ite Nat P hd t f) L st hp k ks := by
  rw [if_neg h]; exact w
theorem wk_heap {p : Program} {l : Launch} {e : Env} {R : Room} {s : State} {m : MethodId} {args : Array Value} {below : List Frame} {meth : Method} {c : Code} {Q : State → Prop} {b : Nat} {en ac : Nat → Nat} {D : va_G} {M : MT} {mi pc k ks : Nat} {L : List (Nat × Value)} {st : List Value} {hp : List AE} (hp' : List AE) (h : hp_eq hp hp' = true) (w : Wk p l e R s m args below meth c b en ac D M mi Q pc L st hp' k ks) : Wk p l e R s m args below meth c b en ac D M mi Q pc L st hp k ks := by
  rw [hp_eq_ok h]; exact w
