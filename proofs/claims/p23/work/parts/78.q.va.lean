/-! ===== the signs of a run, last one first; what both make of them ===== -/
def kL : List Nat → Nat
  | [] => 0
  | c :: rs => cond (isLt c) (kL rs + 1) (kL rs)
def kD : List Nat → Nat
  | [] => 0
  | c :: rs => cond (isLt c) (kD rs) (kD rs + 1)
def fX : List Nat → Int64
  | [] => 0
  | c :: rs => cond (isLt c) (wl (fX rs) c) (fX rs)
def nX : List Nat → Int32
  | [] => 0
  | c :: rs => cond (isLt c) (nX rs) (nX rs * Int32.ofNat 10 + (Int32.ofNat c - Int32.ofNat 48))
def gM (lt : Bool) : List Nat → Bool
  | [] => true
  | c :: rs => gM lt rs && (isLt c == lt)
def wM : List Nat → Int64
  | [] => 0
  | c :: rs => if rs.length < 7 then mw (wM rs) c else wM rs
def nM : List Nat → Int32
  | [] => 0
  | c :: rs => if rs.length < 3 then mn (nM rs) c else nM rs
theorem lt_dg {c : Nat} (h : isDg c = true) : isLt c = false := by
  unfold isDg at h
  unfold isLt
  rw [Bool.and_eq_true] at h
  have h2 := Nat.le_of_ble_eq_true h.2
  rw [ble_f (a := 97) (by omega)]
  rfl
theorem both_run (B : Nat → Nat) (lt : Bool) (s : Nat) : ∀ (r a : Nat) (rs : List Nat), a = s + rs.length → ∃ ds : List Nat, xrun B r a (kL rs) (kD rs) (fX rs) (nX rs) = (s + (ds ++ rs).length, kL (ds ++ rs), kD (ds ++ rs), fX (ds ++ rs), nX (ds ++ rs)) ∧ mrun B lt s r a (gM lt rs) (wM rs) (nM rs) = (s + (ds ++ rs).length, gM lt (ds ++ rs), wM (ds ++ rs), nM (ds ++ rs)) ∧ (∀ c ∈ ds, isLt c = true ∨ isDg c = true) ∧ (∀ c ∈ ds, ∃ i, c = B i) ∧ (0 < r → isLt (B a) = true ∨ isDg (B a) = true → B a ∈ ds)
  | 0, a, rs, h => ⟨[], by rw [h]; rfl, by rw [h]; rfl, fun c hc => absurd hc List.not_mem_nil, fun c hc => absurd hc List.not_mem_nil, fun h => absurd h (Nat.lt_irrefl 0)⟩
  | r + 1, a, rs, h => by
    have hlen : a - s = rs.length := by omega
    cases hc : isLt (B a) with
    | true =>
      obtain ⟨ds, e1, e2, e3, e4, -⟩ := both_run B lt s r (a + 1) (B a :: rs) (by rw [List.length_cons]; omega)
      refine ⟨ds ++ [B a], ?_, ?_, ?_, ?_, fun _ _ => List.mem_append_right _ List.mem_cons_self⟩
      · rw [List.append_assoc]
        show cond (isLt (B a)) _ _ = _
        rw [hc]
        have x1 : kL (B a :: rs) = kL rs + 1 := by show cond (isLt (B a)) _ _ = _; rw [hc]; rfl
        have x2 : kD (B a :: rs) = kD rs := by show cond (isLt (B a)) _ _ = _; rw [hc]; rfl
        have x3 : fX (B a :: rs) = wl (fX rs) (B a) := by show cond (isLt (B a)) _ _ = _; rw [hc]; rfl
        have x4 : nX (B a :: rs) = nX rs := by show cond (isLt (B a)) _ _ = _; rw [hc]; rfl
        rw [x1, x2, x3, x4] at e1
        exact e1
      · rw [List.append_assoc]
        show cond (isLt (B a) || isDg (B a)) _ _ = _
        rw [hc]
        have x1 : gM lt (B a :: rs) = (gM lt rs && (true == lt)) := by show (gM lt rs && (isLt (B a) == lt)) = _; rw [hc]
        have x2 : wM (B a :: rs) = (if a - s < 7 then mw (wM rs) (B a) else wM rs) := by rw [hlen]; rfl
        have x3 : nM (B a :: rs) = (if a - s < 3 then mn (nM rs) (B a) else nM rs) := by rw [hlen]; rfl
        rw [x1, x2, x3] at e2
        exact e2
      · intro c h2
        rcases List.mem_append.mp h2 with h2 | h2
        · exact e3 c h2
        · rw [List.mem_singleton.mp h2]; exact Or.inl hc
      · intro c h2
        rcases List.mem_append.mp h2 with h2 | h2
        · exact e4 c h2
        · exact ⟨a, List.mem_singleton.mp h2⟩
    | false =>
      cases hg : isDg (B a) with
      | true =>
        obtain ⟨ds, e1, e2, e3, e4, -⟩ := both_run B lt s r (a + 1) (B a :: rs) (by rw [List.length_cons]; omega)
        refine ⟨ds ++ [B a], ?_, ?_, ?_, ?_, fun _ _ => List.mem_append_right _ List.mem_cons_self⟩
        · rw [List.append_assoc]
          show cond (isLt (B a)) _ _ = _
          rw [hc]
          show cond (isDg (B a)) _ _ = _
          rw [hg]
          have x1 : kL (B a :: rs) = kL rs := by show cond (isLt (B a)) _ _ = _; rw [hc]; rfl
          have x2 : kD (B a :: rs) = kD rs + 1 := by show cond (isLt (B a)) _ _ = _; rw [hc]; rfl
          have x3 : fX (B a :: rs) = fX rs := by show cond (isLt (B a)) _ _ = _; rw [hc]; rfl
          have x4 : nX (B a :: rs) = nX rs * Int32.ofNat 10 + (Int32.ofNat (B a) - Int32.ofNat 48) := by show cond (isLt (B a)) _ _ = _; rw [hc]; rfl
          rw [x1, x2, x3, x4] at e1
          exact e1
        · rw [List.append_assoc]
          show cond (isLt (B a) || isDg (B a)) _ _ = _
          rw [hc, hg]
          have x1 : gM lt (B a :: rs) = (gM lt rs && (false == lt)) := by show (gM lt rs && (isLt (B a) == lt)) = _; rw [hc]
          have x2 : wM (B a :: rs) = (if a - s < 7 then mw (wM rs) (B a) else wM rs) := by rw [hlen]; rfl
          have x3 : nM (B a :: rs) = (if a - s < 3 then mn (nM rs) (B a) else nM rs) := by rw [hlen]; rfl
          rw [x1, x2, x3] at e2
          exact e2
        · intro c h2
          rcases List.mem_append.mp h2 with h2 | h2
          · exact e3 c h2
          · rw [List.mem_singleton.mp h2]; exact Or.inr hg
        · intro c h2
          rcases List.mem_append.mp h2 with h2 | h2
          · exact e4 c h2
          · exact ⟨a, List.mem_singleton.mp h2⟩
      | false =>
        refine ⟨[], ?_, ?_, fun c hc => absurd hc List.not_mem_nil, fun c hc => absurd hc List.not_mem_nil, fun _ e => by rcases e with e | e <;> cases e⟩
        · show cond (isLt (B a)) _ _ = _
          rw [hc]
          show cond (isDg (B a)) _ _ = _
          rw [hg, h]
          rfl
        · show cond (isLt (B a) || isDg (B a)) _ _ = _
          rw [hc, hg, h]
          rfl
/-! ===== names ===== -/
def p5 : List Nat → Int64
  | [] => 0
  | c :: rs => wl (p5 rs) c
def p27 : List Nat → Int64
  | [] => 0
  | c :: rs => mw (p27 rs) c
def vl (rs : List Nat) : Bool := rs.all isLt
theorem kD_0 : ∀ {rs : List Nat}, kD rs = 0 → vl rs = true ∧ fX rs = p5 rs ∧ kL rs = rs.length
  | [], _ => ⟨rfl, rfl, rfl⟩
  | c :: rs, h => by
    have h : cond (isLt c) (kD rs) (kD rs + 1) = 0 := h
    cases hc : isLt c with
    | false => rw [hc] at h; cases h
    | true =>
      rw [hc] at h
      obtain ⟨h1, h2, h3⟩ := kD_0 (rs := rs) h
      refine ⟨?_, ?_, ?_⟩
      · show (isLt c && vl rs) = true
        rw [hc, h1]; rfl
      · show cond (isLt c) (wl (fX rs) c) (fX rs) = wl (p5 rs) c
        rw [hc, h2]; rfl
      · show cond (isLt c) (kL rs + 1) (kL rs) = (c :: rs).length
        rw [hc, h3]; rfl
theorem wM_p : ∀ {rs : List Nat}, rs.length ≤ 7 → wM rs = p27 rs
  | [], _ => rfl
  | c :: rs, h => by
    rw [List.length_cons] at h
    show (if rs.length < 7 then mw (wM rs) c else wM rs) = mw (p27 rs) c
    rw [if_pos (by omega), wM_p (rs := rs) (by omega)]
theorem i32_ring (n c : Int32) : n * Int32.ofNat 10 + (c - Int32.ofNat 48) = Int32.ofNat 10 * n + c - Int32.ofNat 48 := by
  rw [Int32.mul_comm n, Int32.sub_eq_add_neg, Int32.sub_eq_add_neg, Int32.add_assoc]
theorem kL_0 : ∀ {rs : List Nat}, kL rs = 0 → rs.length ≤ 3 → nX rs = nM rs ∧ kD rs = rs.length
  | [], _, _ => ⟨rfl, rfl⟩
  | c :: rs, h, h3 => by
    have h : cond (isLt c) (kL rs + 1) (kL rs) = 0 := h
    rw [List.length_cons] at h3
    cases hc : isLt c with
    | true => rw [hc] at h; cases h
    | false =>
      rw [hc] at h
      obtain ⟨h1, h2⟩ := kL_0 (rs := rs) h (by omega)
      refine ⟨?_, ?_⟩
      · show cond (isLt c) (nX rs) (nX rs * Int32.ofNat 10 + (Int32.ofNat c - Int32.ofNat 48)) = (if rs.length < 3 then mn (nM rs) c else nM rs)
        rw [hc, if_pos (by omega)]
        show nX rs * Int32.ofNat 10 + (Int32.ofNat c - Int32.ofNat 48) = Int32.ofNat 10 * nM rs + Int32.ofNat c - Int32.ofNat 48
        rw [h1, i32_ring]
      · show cond (isLt c) (kD rs) (kD rs + 1) = (c :: rs).length
        rw [hc, h2]; rfl
theorem cLD : ∀ {rs : List Nat}, kL rs + kD rs = rs.length
  | [] => rfl
  | c :: rs => by
    have := cLD (rs := rs)
    show cond (isLt c) (kL rs + 1) (kL rs) + cond (isLt c) (kD rs) (kD rs + 1) = (c :: rs).length
    rw [List.length_cons]
    cases isLt c <;> simp only [cond_true, cond_false] <;> omega
theorem gM_t : ∀ {rs : List Nat}, gM true rs = true ↔ kD rs = 0
  | [] => ⟨fun _ => rfl, fun _ => rfl⟩
  | c :: rs => by
    have ih := gM_t (rs := rs)
    show (gM true rs && (isLt c == true)) = true ↔ cond (isLt c) (kD rs) (kD rs + 1) = 0
    cases isLt c with
    | true => rw [show (true == true) = true from rfl, Bool.and_true]; exact ih
    | false =>
      rw [show (false == true) = false from rfl, Bool.and_false]
      exact ⟨fun e => (by cases e), fun e => absurd (show kD rs + 1 = 0 from e) (Nat.succ_ne_zero _)⟩
theorem gM_f : ∀ {rs : List Nat}, gM false rs = true ↔ kL rs = 0
  | [] => ⟨fun _ => rfl, fun _ => rfl⟩
  | c :: rs => by
    have ih := gM_f (rs := rs)
    show (gM false rs && (isLt c == false)) = true ↔ cond (isLt c) (kL rs + 1) (kL rs) = 0
    cases isLt c with
    | false => rw [show (false == false) = true from rfl, Bool.and_true]; exact ih
    | true =>
      rw [show (true == false) = false from rfl, Bool.and_false]
      exact ⟨fun e => (by cases e), fun e => absurd (show kL rs + 1 = 0 from e) (Nat.succ_ne_zero _)⟩
