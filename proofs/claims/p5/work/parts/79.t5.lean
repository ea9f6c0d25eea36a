/-! ===== what a run leaves as it is: a field that none of its instructions writes ===== -/
section
variable (c0 cl fl : Nat) (v0 : Value)
def KP (hp : List AE) : Prop := ∃ fs, hp[c0]? = some (.inr (cl, fs)) ∧ fs[fl]? = some v0
def PQ (o : Option ev_R) : Prop := ∀ q, o = some q → KP c0 cl fl v0 q.2
def gJw (S : List Nat) (lo : Nat) : Instr → Nat → Nat → Bool
  | .iconst _, _, _ => true
  | .bipush _, _, _ => true
  | .sipush _, _, _ => true
  | .iload_n _, _, _ => true
  | .iload _, _, _ => true
  | .aload_n _, _, _ => true
  | .istore_n _, _, _ => true
  | .istore _, _, _ => true
  | .iinc _ _, _, _ => true
  | .iadd, _, _ => true
  | .isub, _, _ => true
  | .imul, _, _ => true
  | .iand, _, _ => true
  | .ior, _, _ => true
  | .ixor, _, _ => true
  | .irem, _, _ => true
  | .ishl, _, _ => true
  | .ishr, _, _ => true
  | .iushr, _, _ => true
  | .dup, _, _ => true
  | .dup2, _, _ => true
  | .pop, _, _ => true
  | .getfield _, _, _ => true
  | .iaload, _, _ => true
  | .aaload, _, _ => true
  | .iastore, _, _ => true
  | .ireturn, _, _ => true
  | .return_, _, _ => true
  | .goto _, x, _ => Nat.ble lo x
  | .ifCond _ _, x, _ => Nat.ble lo x
  | .if_icmp _ _, x, _ => Nat.ble lo x
  | .tableswitch _ _ _ _, _, _ => Nat.beq lo 0
  | .lookupswitch _ _, _, _ => Nat.beq lo 0
  | .putfield _, x, y => !(Nat.beq x cl && Nat.beq y fl)
  | .invokevirtual _, x, _ => Nat.blt x 900 && S.any (Nat.beq x)
  | .invokestatic _, x, _ => (Nat.blt x 900 && S.any (Nat.beq x)) || Nat.beq x 901 || Nat.beq x 904
  | _, _, _ => false
variable {c0 cl fl v0}
theorem PQ_none : PQ c0 cl fl v0 none := fun q h => by cases h
theorem PQ_bind {α : Type} {o : Option α} {f : α → Option ev_R} (h : ∀ a, o = some a → PQ c0 cl fl v0 (f a)) : PQ c0 cl fl v0 (o.bind f) := by
  cases o with
  | none => exact PQ_none
  | some a => exact h a rfl
theorem PQ_ite {p : Prop} [Decidable p] {a b : Option ev_R} (h1 : p → PQ c0 cl fl v0 a) (h2 : ¬ p → PQ c0 cl fl v0 b) : PQ c0 cl fl v0 (if p then a else b) := by
  by_cases c : p
  · rw [if_pos c]; exact h1 c
  · rw [if_neg c]; exact h2 c
theorem PQ_end {mi k ks : Nat} {r : Option Value} {rest : List Value} {hp : List AE} (h : KP c0 cl fl v0 hp) : PQ c0 cl fl v0 (ev_end MM mi r rest hp k ks) := by
  unfold ev_end
  refine PQ_ite (fun _ q e => ?_) (fun _ => PQ_none)
  cases e
  exact h
theorem kp_ne {hp : List AE} {a : Nat} {e : AE} (h : KP c0 cl fl v0 hp) (hn : a ≠ c0) : KP c0 cl fl v0 (hp.set a e) := by
  obtain ⟨fs, h1, h2⟩ := h
  exact ⟨fs, by rw [List.getElem?_set_ne hn]; exact h1, h2⟩
theorem kp_ai {hp : List AE} {a : Nat} {z : Nat × List Int32} (h : KP c0 cl fl v0 hp) (e : ev_ai hp a = some z) : a ≠ c0 := fun q => by
  obtain ⟨fs, h1, h2⟩ := h
  subst q
  unfold ev_ai at e
  rw [h1] at e
  cases e
theorem kp_cy {hp h1 : List AE} {n dp sp : Int32} {a1 a0 : Nat} (h : KP c0 cl fl v0 hp) (e : ev_cy hp n dp a1 sp a0 = some h1) : KP c0 cl fl v0 h1 := by
  have hne : ∀ q : List Int32 ⊕ (List Int64 ⊕ List (Option Nat)), ∀ t : Nat, hp[a1]? = some (.inl (t, q)) → a1 ≠ c0 := fun q t e1 e2 => by
    obtain ⟨fs, k1, k2⟩ := h
    rw [e2, k1] at e1
    cases e1
  unfold ev_cy at e
  split at e
  · cases e
  · split at e
    · rename_i e3
      split at e
      · cases e; exact kp_ne h (hne _ _ e3)
      · cases e
    · rename_i e3
      split at e
      · cases e; exact kp_ne h (hne _ _ e3)
      · cases e
    · cases e
theorem kp_put {hp : List AE} {a x y : Nat} {fs : List Value} {v : Value} (h : KP c0 cl fl v0 hp) (e : ev_ob hp a x = some fs) (g : (!(Nat.beq x cl && Nat.beq y fl)) = true) : KP c0 cl fl v0 (hp.set a (.inr (x, fs.set y v))) := by
  by_cases q : a = c0
  · subst q
    obtain ⟨gs, h1, h2⟩ := h
    unfold ev_ob at e
    rw [h1] at e
    have e : cond (Nat.beq cl x) (some gs) none = some fs := e
    cases hb : Nat.beq cl x with
    | false => rw [hb] at e; cases e
    | true =>
      rw [hb] at e
      cases e
      obtain rfl := Nat.eq_of_beq_eq_true hb
      rw [Nat.beq_refl] at g
      have hy : y ≠ fl := fun q => by subst q; rw [Nat.beq_refl] at g; cases g
      have hl : a < hp.length := (List.getElem?_eq_some_iff.mp h1).1
      exact ⟨_, List.getElem?_set_self hl, by rw [List.getElem?_set_ne hy]; exact h2⟩
  · exact kp_ne h q
section
variable {S : List Nat} {lo : Nat} {cf : Nat → List Value → List AE → Option ev_R}
theorem kp_cf (hc : ∀ x, S.any (Nat.beq x) = true → ∀ As hp, KP c0 cl fl v0 hp → PQ c0 cl fl v0 (cf x As hp)) {mi x k ks : Nat} {As rest : List Value} {hp : List AE} {K2 : List Value → List AE → Nat → Nat → Option ev_R} (hx : S.any (Nat.beq x) = true) (h : KP c0 cl fl v0 hp) (hK : ∀ st h2 k2 ks2, KP c0 cl fl v0 h2 → PQ c0 cl fl v0 (K2 st h2 k2 ks2)) : PQ c0 cl fl v0 (ev_cf MM cf mi x As rest hp k ks K2) := by
  unfold ev_cf
  exact PQ_ite (fun _ => PQ_ite (fun _ => PQ_bind (fun q hq => hK _ _ _ _ (hc x hx As hp h q hq))) (fun _ => PQ_none)) (fun _ => PQ_none)
theorem kp_s (hc : ∀ x, S.any (Nat.beq x) = true → ∀ As hp, KP c0 cl fl v0 hp → PQ c0 cl fl v0 (cf x As hp)) {mi pc x y k ks : Nat} {i : Instr} {L : List (Nat × Value)} {st : List Value} {hp : List AE} {K : Nat → List (Nat × Value) → List Value → List AE → Nat → Nat → Option ev_R} (g : gJw cl fl S lo i x y = true) (hpc : lo ≤ pc) (h : KP c0 cl fl v0 hp) (hK : ∀ p L2 st2 h2 k2 ks2, lo ≤ p → KP c0 cl fl v0 h2 → PQ c0 cl fl v0 (K p L2 st2 h2 k2 ks2)) : PQ c0 cl fl v0 (ev_s MM cf mi pc i x y L st hp k ks K) := by
  show PQ c0 cl fl v0 (ev_op i MM cf mi pc x y L st hp k ks K)
  cases i
  all_goals first
    | exact (Bool.false_ne_true g).elim
    | skip
  case iconst a0 =>
    show PQ c0 cl fl v0 (eo_iconst a0 MM cf mi pc x y L st hp k ks K)
    unfold eo_iconst
    repeat (first | exact PQ_none | exact hK _ _ _ _ _ _ (by first | omega | (split <;> omega)) h | refine PQ_bind (fun _ _ => ?_) | refine PQ_ite (fun _ => ?_) (fun _ => ?_) | split)
  case bipush a0 =>
    show PQ c0 cl fl v0 (eo_bipush a0 MM cf mi pc x y L st hp k ks K)
    unfold eo_bipush
    repeat (first | exact PQ_none | exact hK _ _ _ _ _ _ (by first | omega | (split <;> omega)) h | refine PQ_bind (fun _ _ => ?_) | refine PQ_ite (fun _ => ?_) (fun _ => ?_) | split)
  case sipush a0 =>
    show PQ c0 cl fl v0 (eo_sipush a0 MM cf mi pc x y L st hp k ks K)
    unfold eo_sipush
    repeat (first | exact PQ_none | exact hK _ _ _ _ _ _ (by first | omega | (split <;> omega)) h | refine PQ_bind (fun _ _ => ?_) | refine PQ_ite (fun _ => ?_) (fun _ => ?_) | split)
  case iload_n a0 =>
    show PQ c0 cl fl v0 (eo_iload_n a0 MM cf mi pc x y L st hp k ks K)
    unfold eo_iload_n
    repeat (first | exact PQ_none | exact hK _ _ _ _ _ _ (by first | omega | (split <;> omega)) h | refine PQ_bind (fun _ _ => ?_) | refine PQ_ite (fun _ => ?_) (fun _ => ?_) | split)
  case iload a0 =>
    show PQ c0 cl fl v0 (eo_iload a0 MM cf mi pc x y L st hp k ks K)
    unfold eo_iload
    repeat (first | exact PQ_none | exact hK _ _ _ _ _ _ (by first | omega | (split <;> omega)) h | refine PQ_bind (fun _ _ => ?_) | refine PQ_ite (fun _ => ?_) (fun _ => ?_) | split)
  case aload_n a0 =>
    show PQ c0 cl fl v0 (eo_aload_n a0 MM cf mi pc x y L st hp k ks K)
    unfold eo_aload_n
    repeat (first | exact PQ_none | exact hK _ _ _ _ _ _ (by first | omega | (split <;> omega)) h | refine PQ_bind (fun _ _ => ?_) | refine PQ_ite (fun _ => ?_) (fun _ => ?_) | split)
  case istore_n a0 =>
    show PQ c0 cl fl v0 (eo_istore_n a0 MM cf mi pc x y L st hp k ks K)
    unfold eo_istore_n
    repeat (first | exact PQ_none | exact hK _ _ _ _ _ _ (by first | omega | (split <;> omega)) h | refine PQ_bind (fun _ _ => ?_) | refine PQ_ite (fun _ => ?_) (fun _ => ?_) | split)
  case istore a0 =>
    show PQ c0 cl fl v0 (eo_istore a0 MM cf mi pc x y L st hp k ks K)
    unfold eo_istore
    repeat (first | exact PQ_none | exact hK _ _ _ _ _ _ (by first | omega | (split <;> omega)) h | refine PQ_bind (fun _ _ => ?_) | refine PQ_ite (fun _ => ?_) (fun _ => ?_) | split)
  case iinc a0 a1 =>
    show PQ c0 cl fl v0 (eo_iinc a0 a1 MM cf mi pc x y L st hp k ks K)
    unfold eo_iinc
    repeat (first | exact PQ_none | exact hK _ _ _ _ _ _ (by first | omega | (split <;> omega)) h | refine PQ_bind (fun _ _ => ?_) | refine PQ_ite (fun _ => ?_) (fun _ => ?_) | split)
  case iadd =>
    show PQ c0 cl fl v0 (eo_iadd MM cf mi pc x y L st hp k ks K)
    unfold eo_iadd
    repeat (first | exact PQ_none | exact hK _ _ _ _ _ _ (by first | omega | (split <;> omega)) h | refine PQ_bind (fun _ _ => ?_) | refine PQ_ite (fun _ => ?_) (fun _ => ?_) | split)
  case isub =>
    show PQ c0 cl fl v0 (eo_isub MM cf mi pc x y L st hp k ks K)
    unfold eo_isub
    repeat (first | exact PQ_none | exact hK _ _ _ _ _ _ (by first | omega | (split <;> omega)) h | refine PQ_bind (fun _ _ => ?_) | refine PQ_ite (fun _ => ?_) (fun _ => ?_) | split)
  case imul =>
    show PQ c0 cl fl v0 (eo_imul MM cf mi pc x y L st hp k ks K)
    unfold eo_imul
    repeat (first | exact PQ_none | exact hK _ _ _ _ _ _ (by first | omega | (split <;> omega)) h | refine PQ_bind (fun _ _ => ?_) | refine PQ_ite (fun _ => ?_) (fun _ => ?_) | split)
  case iand =>
    show PQ c0 cl fl v0 (eo_iand MM cf mi pc x y L st hp k ks K)
    unfold eo_iand
    repeat (first | exact PQ_none | exact hK _ _ _ _ _ _ (by first | omega | (split <;> omega)) h | refine PQ_bind (fun _ _ => ?_) | refine PQ_ite (fun _ => ?_) (fun _ => ?_) | split)
  case ior =>
    show PQ c0 cl fl v0 (eo_ior MM cf mi pc x y L st hp k ks K)
    unfold eo_ior
    repeat (first | exact PQ_none | exact hK _ _ _ _ _ _ (by first | omega | (split <;> omega)) h | refine PQ_bind (fun _ _ => ?_) | refine PQ_ite (fun _ => ?_) (fun _ => ?_) | split)
  case ixor =>
    show PQ c0 cl fl v0 (eo_ixor MM cf mi pc x y L st hp k ks K)
    unfold eo_ixor
    repeat (first | exact PQ_none | exact hK _ _ _ _ _ _ (by first | omega | (split <;> omega)) h | refine PQ_bind (fun _ _ => ?_) | refine PQ_ite (fun _ => ?_) (fun _ => ?_) | split)
  case irem =>
    show PQ c0 cl fl v0 (eo_irem MM cf mi pc x y L st hp k ks K)
    unfold eo_irem
    repeat (first | exact PQ_none | exact hK _ _ _ _ _ _ (by first | omega | (split <;> omega)) h | refine PQ_bind (fun _ _ => ?_) | refine PQ_ite (fun _ => ?_) (fun _ => ?_) | split)
  case ishl =>
    show PQ c0 cl fl v0 (eo_ishl MM cf mi pc x y L st hp k ks K)
    unfold eo_ishl
    repeat (first | exact PQ_none | exact hK _ _ _ _ _ _ (by first | omega | (split <;> omega)) h | refine PQ_bind (fun _ _ => ?_) | refine PQ_ite (fun _ => ?_) (fun _ => ?_) | split)
  case ishr =>
    show PQ c0 cl fl v0 (eo_ishr MM cf mi pc x y L st hp k ks K)
    unfold eo_ishr
    repeat (first | exact PQ_none | exact hK _ _ _ _ _ _ (by first | omega | (split <;> omega)) h | refine PQ_bind (fun _ _ => ?_) | refine PQ_ite (fun _ => ?_) (fun _ => ?_) | split)
  case iushr =>
    show PQ c0 cl fl v0 (eo_iushr MM cf mi pc x y L st hp k ks K)
    unfold eo_iushr
    repeat (first | exact PQ_none | exact hK _ _ _ _ _ _ (by first | omega | (split <;> omega)) h | refine PQ_bind (fun _ _ => ?_) | refine PQ_ite (fun _ => ?_) (fun _ => ?_) | split)
  case dup =>
    show PQ c0 cl fl v0 (eo_dup MM cf mi pc x y L st hp k ks K)
    unfold eo_dup
    repeat (first | exact PQ_none | exact hK _ _ _ _ _ _ (by first | omega | (split <;> omega)) h | refine PQ_bind (fun _ _ => ?_) | refine PQ_ite (fun _ => ?_) (fun _ => ?_) | split)
  case dup2 =>
    show PQ c0 cl fl v0 (eo_dup2 MM cf mi pc x y L st hp k ks K)
    unfold eo_dup2
    repeat (first | exact PQ_none | exact hK _ _ _ _ _ _ (by first | omega | (split <;> omega)) h | refine PQ_bind (fun _ _ => ?_) | refine PQ_ite (fun _ => ?_) (fun _ => ?_) | split)
  case pop =>
    show PQ c0 cl fl v0 (eo_pop MM cf mi pc x y L st hp k ks K)
    unfold eo_pop
    repeat (first | exact PQ_none | exact hK _ _ _ _ _ _ (by first | omega | (split <;> omega)) h | refine PQ_bind (fun _ _ => ?_) | refine PQ_ite (fun _ => ?_) (fun _ => ?_) | split)
  case getfield a0 =>
    show PQ c0 cl fl v0 (eo_getfield MM cf mi pc x y L st hp k ks K)
    unfold eo_getfield
    repeat (first | exact PQ_none | exact hK _ _ _ _ _ _ (by first | omega | (split <;> omega)) h | refine PQ_bind (fun _ _ => ?_) | refine PQ_ite (fun _ => ?_) (fun _ => ?_) | split)
  case iaload =>
    show PQ c0 cl fl v0 (eo_iaload MM cf mi pc x y L st hp k ks K)
    unfold eo_iaload
    repeat (first | exact PQ_none | exact hK _ _ _ _ _ _ (by first | omega | (split <;> omega)) h | refine PQ_bind (fun _ _ => ?_) | refine PQ_ite (fun _ => ?_) (fun _ => ?_) | split)
  case aaload =>
    show PQ c0 cl fl v0 (eo_aaload MM cf mi pc x y L st hp k ks K)
    unfold eo_aaload
    repeat (first | exact PQ_none | exact hK _ _ _ _ _ _ (by first | omega | (split <;> omega)) h | refine PQ_bind (fun _ _ => ?_) | refine PQ_ite (fun _ => ?_) (fun _ => ?_) | split)
  case iastore =>
    show PQ c0 cl fl v0 (eo_iastore MM cf mi pc x y L st hp k ks K)
    unfold eo_iastore
    exact PQ_bind (fun q _ => PQ_bind (fun z hz => PQ_ite (fun _ => PQ_bind (fun _ _ => hK _ _ _ _ _ _ (by omega) (kp_ne h (kp_ai h hz)))) (fun _ => PQ_none)))
  case ireturn =>
    show PQ c0 cl fl v0 (eo_ireturn MM cf mi pc x y L st hp k ks K)
    unfold eo_ireturn
    exact PQ_bind (fun q _ => PQ_ite (fun _ => PQ_end h) (fun _ => PQ_none))
  case return_ =>
    show PQ c0 cl fl v0 (eo_return MM cf mi pc x y L st hp k ks K)
    unfold eo_return
    exact PQ_ite (fun _ => PQ_end h) (fun _ => PQ_none)
  case goto a0 =>
    have hx : lo ≤ x := Nat.le_of_ble_eq_true g
    exact hK _ _ _ _ _ _ hx h
  case ifCond c a0 =>
    have hx : lo ≤ x := Nat.le_of_ble_eq_true g
    cases c <;> exact PQ_bind (fun q _ => hK _ _ _ _ _ _ (by split <;> omega) h)
  case if_icmp c a0 =>
    have hx : lo ≤ x := Nat.le_of_ble_eq_true g
    cases c <;> exact PQ_bind (fun q _ => hK _ _ _ _ _ _ (by split <;> omega) h)
  case tableswitch a0 a1 a2 a3 =>
    have hl : lo = 0 := Nat.eq_of_beq_eq_true g
    show PQ c0 cl fl v0 (eo_tableswitch a0 a1 a2 a3 MM cf mi pc x y L st hp k ks K)
    unfold eo_tableswitch
    exact PQ_bind (fun q _ => PQ_ite (fun _ => PQ_bind (fun t _ => hK _ _ _ _ _ _ (by omega) h)) (fun _ => PQ_bind (fun _ _ => PQ_bind (fun t _ => hK _ _ _ _ _ _ (by omega) h))))
  case lookupswitch a0 a1 =>
    have hl : lo = 0 := Nat.eq_of_beq_eq_true g
    show PQ c0 cl fl v0 (eo_lookupswitch a0 a1 MM cf mi pc x y L st hp k ks K)
    unfold eo_lookupswitch
    exact PQ_bind (fun q _ => PQ_bind (fun t _ => hK _ _ _ _ _ _ (by omega) h))
  case putfield a0 =>
    show PQ c0 cl fl v0 (eo_putfield MM cf mi pc x y L st hp k ks K)
    unfold eo_putfield
    exact PQ_bind (fun q _ => PQ_bind (fun fs hf => PQ_ite (fun _ => hK _ _ _ _ _ _ (by omega) (kp_put h hf g)) (fun _ => PQ_none)))
  case invokevirtual a0 =>
    have g : (Nat.blt x 900 && S.any (Nat.beq x)) = true := g
    rw [Bool.and_eq_true] at g
    have hx : x < 900 := Nat.le_of_ble_eq_true g.1
    show PQ c0 cl fl v0 (eo_invokevirtual MM cf mi pc x y L st hp k ks K)
    unfold eo_invokevirtual
    rw [if_pos hx]
    unfold ev_iv
    exact PQ_bind (fun q _ => PQ_bind (fun z _ => PQ_bind (fun _ _ => PQ_ite (fun _ => kp_cf hc g.2 h (fun st2 h2 k2 ks2 hh2 => hK _ _ _ _ _ _ (by omega) hh2)) (fun _ => PQ_none))))
  case invokestatic a0 =>
    have g : ((Nat.blt x 900 && S.any (Nat.beq x)) || Nat.beq x 901 || Nat.beq x 904) = true := g
    show PQ c0 cl fl v0 (eo_invokestatic MM cf mi pc x y L st hp k ks K)
    unfold eo_invokestatic
    refine PQ_ite (fun hx => ?_) (fun hx => ?_)
    · have gx : S.any (Nat.beq x) = true := by
        rw [Bool.or_eq_true, Bool.or_eq_true, Bool.and_eq_true] at g
        rcases g with (g | g) | g
        · exact g.2
        · have := Nat.eq_of_beq_eq_true g; omega
        · have := Nat.eq_of_beq_eq_true g; omega
      exact PQ_bind (fun q _ => kp_cf hc gx h (fun st2 h2 k2 ks2 hh2 => hK _ _ _ _ _ _ (by omega) hh2))
    · refine PQ_ite (fun _ => PQ_bind (fun q _ => PQ_ite (fun _ => hK _ _ _ _ _ _ (by omega) h) (fun _ => PQ_none))) (fun _ => PQ_ite (fun _ => PQ_bind (fun q _ => PQ_ite (fun _ => hK _ _ _ _ _ _ (by omega) h) (fun _ => PQ_none))) (fun _ => PQ_ite (fun _ => PQ_bind (fun q _ => PQ_ite (fun _ => PQ_bind (fun h1 e1 => hK _ _ _ _ _ _ (by omega) (kp_cy h e1))) (fun _ => PQ_none))) (fun _ => PQ_none)))
theorem kp_r (hc : ∀ x, S.any (Nat.beq x) = true → ∀ As hp, KP c0 cl fl v0 hp → PQ c0 cl fl v0 (cf x As hp)) {mi : Nat} (hk : (ev_at mi).2.2.2.2.2.2.1.all (fun ch => ch.all (fun e => Nat.blt e.1 lo || gJw cl fl S lo e.2.1 e.2.2.1 e.2.2.2)) = true) : ∀ (n pc : Nat) (L : List (Nat × Value)) (st : List Value) (hp : List AE) (k ks : Nat), lo ≤ pc → KP c0 cl fl v0 hp → PQ c0 cl fl v0 (ev_r MM cf mi n pc L st hp k ks)
  | 0, _, _, _, _, _, _, _, _ => PQ_none
  | n + 1, pc, L, st, hp, k, ks, hpc, h => by
    show PQ c0 cl fl v0 ((ev_fe (ev_at mi).2.2.2.2.2.2.1 pc).bind (fun q => ev_s MM cf mi pc q.1 q.2.1 q.2.2 L st hp k ks (ev_r MM cf mi n)))
    refine PQ_bind (fun q hq => ?_)
    have fdm : ∀ (l : List (Nat × Instr × Nat × Nat)), ev_fd l pc = some q → (pc, q) ∈ l := fun l => by
      induction l with
      | nil => intro e; cases e
      | cons e l ih =>
        intro e2
        have e2 : cond (Nat.beq e.1 pc) (some e.2) (ev_fd l pc) = some q := e2
        cases hb : Nat.beq e.1 pc with
        | true =>
          rw [hb] at e2
          cases e2
          obtain rfl := Nat.eq_of_beq_eq_true hb
          exact List.mem_cons_self
        | false => rw [hb] at e2; exact List.mem_cons_of_mem _ (ih e2)
    unfold ev_fe at hq
    cases hch : (ev_at mi).2.2.2.2.2.2.1[pc / 16]? with
    | none => rw [hch] at hq; cases hq
    | some ch =>
      rw [hch] at hq
      have h1 := List.all_eq_true.mp hk ch (List.mem_of_getElem? hch)
      have h2 := List.all_eq_true.mp h1 _ (fdm ch hq)
      rw [Bool.or_eq_true] at h2
      rcases h2 with h2 | h2
      · have h3 : pc < lo := Nat.le_of_ble_eq_true h2
        omega
      · exact kp_s hc h2 hpc h (fun p L2 st2 h3 k2 ks2 hp2 hk2 => kp_r hc hk n p L2 st2 h3 k2 ks2 hp2 hk2)
end
theorem kp_F {S : List Nat} (hS : ∀ mi, S.any (Nat.beq mi) = true → (ev_at mi).2.2.2.2.2.2.1.all (fun ch => ch.all (fun e => Nat.blt e.1 0 || gJw cl fl S 0 e.2.1 e.2.2.1 e.2.2.2)) = true) (F : Nat) : ∀ (d mi : Nat), S.any (Nat.beq mi) = true → ∀ (As : List Value) (hp : List AE), KP c0 cl fl v0 hp → PQ c0 cl fl v0 (evF F MM d mi As hp)
  | 0, _, _, _, _, _ => PQ_none
  | d + 1, mi, hm, As, hp, h => by
    show PQ c0 cl fl v0 (if (lg_sl As).length ≤ mL MM mi ∧ mL MM mi ≤ 40 then ev_r MM (evF F MM d) mi F 0 (lv_args 0 As) [] hp 0 0 else none)
    exact PQ_ite (fun _ => kp_r (lo := 0) (fun x hx As hp h => kp_F hS F d x hx As hp h) (hS mi hm) F 0 _ _ _ _ _ (Nat.zero_le _) h) (fun _ => PQ_none)
end
def SC0 : List Nat := [50, 68, 72, 81, 89, 94, 95, 96, 100, 102, 103, 104, 105, 106, 109, 110, 111, 112, 115, 116, 117, 118, 130]
def SR0 : List Nat := [180, 189, 206, 209, 217, 219, 224, 226, 228, 230, 231, 232, 236, 241, 276, 278, 281, 284, 291, 292]
theorem ks_c : ∀ mi, SC0.any (Nat.beq mi) = true → (ev_at mi).2.2.2.2.2.2.1.all (fun ch => ch.all (fun e => Nat.blt e.1 0 || gJw 10 13 SC0 0 e.2.1 e.2.2.1 e.2.2.2)) = true := by
  intro mi hm
  have key : SC0.all (fun mi => (ev_at mi).2.2.2.2.2.2.1.all (fun ch => ch.all (fun e => Nat.blt e.1 0 || gJw 10 13 SC0 0 e.2.1 e.2.2.1 e.2.2.2))) = true := by decide +kernel
  obtain ⟨m, h1, h2⟩ := List.any_eq_true.mp hm
  obtain rfl := Nat.eq_of_beq_eq_true h2
  exact List.all_eq_true.mp key _ h1
theorem ks_r : ∀ mi, SR0.any (Nat.beq mi) = true → (ev_at mi).2.2.2.2.2.2.1.all (fun ch => ch.all (fun e => Nat.blt e.1 0 || gJw 11 10 SR0 0 e.2.1 e.2.2.1 e.2.2.2)) = true := by
  intro mi hm
  have key : SR0.all (fun mi => (ev_at mi).2.2.2.2.2.2.1.all (fun ch => ch.all (fun e => Nat.blt e.1 0 || gJw 11 10 SR0 0 e.2.1 e.2.2.1 e.2.2.2))) = true := by decide +kernel
  obtain ⟨m, h1, h2⟩ := List.any_eq_true.mp hm
  obtain rfl := Nat.eq_of_beq_eq_true h2
  exact List.all_eq_true.mp key _ h1
theorem kt_c : (ev_at 7).2.2.2.2.2.2.1.all (fun ch => ch.all (fun e => Nat.blt e.1 50 || gJw 10 13 SC0 50 e.2.1 e.2.2.1 e.2.2.2)) = true := by decide +kernel
theorem kt_r : (ev_at 181).2.2.2.2.2.2.1.all (fun ch => ch.all (fun e => Nat.blt e.1 65 || gJw 11 10 SR0 65 e.2.1 e.2.2.1 e.2.2.2)) = true := by decide +kernel
/-- a run that ends, from where another begins: the field stays -/
theorem kp_tail {c0 cl fl dd mi k2 lo : Nat} {v0 : Value} {S : List Nat} {As : List Value} {hp hT : List AE} {q : ev_R} {L : List (Nat × Value)} {st : List Value} {pc : Nat} (hS : ∀ mi, S.any (Nat.beq mi) = true → (ev_at mi).2.2.2.2.2.2.1.all (fun ch => ch.all (fun e => Nat.blt e.1 0 || gJw cl fl S 0 e.2.1 e.2.2.1 e.2.2.2)) = true) (hk : (ev_at mi).2.2.2.2.2.2.1.all (fun ch => ch.all (fun e => Nat.blt e.1 lo || gJw cl fl S lo e.2.1 e.2.2.1 e.2.2.2)) = true) (hpc : lo ≤ pc) (h : RQ dd mi 0 (lv_args 0 As) [] hp (pc, L, st, hT)) (f : FR k2 mi As hp q) (g : KP c0 cl fl v0 hT) : KP c0 cl fl v0 q.2 := by
  obtain ⟨N, k, hN⟩ := h
  obtain ⟨N2, hN2⟩ := f
  have e1 := hN2 (N + N2 + k) (by omega) (dd + k2 + 1) (by omega)
  have e2 : (if (lg_sl As).length ≤ mL MM mi ∧ mL MM mi ≤ 40 then ev_r MM (evF (N + N2 + k) MM (dd + k2)) mi (N + N2 + k) 0 (lv_args 0 As) [] hp 0 0 else none) = some q := e1
  by_cases c : (lg_sl As).length ≤ mL MM mi ∧ mL MM mi ≤ 40
  · rw [if_pos c, hN (N + N2) (by omega) (N + N2 + k) (by omega) (dd + k2) (by omega)] at e2
    exact kp_r (fun x hx As hp h => kp_F hS _ _ x hx As hp h) hk _ _ _ _ _ _ _ hpc g q e2
  · rw [if_neg c] at e2
    cases e2
