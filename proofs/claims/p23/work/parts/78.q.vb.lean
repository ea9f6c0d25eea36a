/-! ===== class and reference read one TOKEN ===== -/
def km : Nat → Nat
  | 0 => 1
  | 1 => 2
  | 2 => 3
  | 3 => 4
  | _ => 0
def TR (x : Nat × Nat × Nat × Nat × Int64 × Int32) (m : Nat × Nat × Nat × Int32 × Int32 × Int64) : Prop :=
  x.1 = m.1 ∧ x.2.2.1 = m.2.1 ∧ x.2.1 ≤ 4 ∧ m.2.2.1 = km x.2.1 ∧
  (x.2.1 = 1 → ∃ rs : List Nat, vl rs = true ∧ 1 ≤ rs.length ∧ rs.length ≤ 7 ∧ x.2.2.2.2.1 = p5 rs ∧ m.2.2.2.2.2 = p27 rs ∧ x.2.2.2.1 = wix (p5 rs) 32 0) ∧
  (x.2.1 ≠ 1 → x.2.2.2.1 = 0) ∧
  (x.2.1 = 2 → ∃ v, v < 1000 ∧ x.2.2.2.2.2 = Int32.ofNat v ∧ m.2.2.2.1 = Int32.ofNat v) ∧
  (x.2.1 = 3 → ∃ c, c < 256 ∧ x.2.2.2.2.2 = Int32.ofNat c ∧ m.2.2.2.2.1 = Int32.ofNat c)
def nN : List Nat → Nat
  | [] => 0
  | c :: rs => nN rs * 10 + (c - 48)
theorem dg_b {c : Nat} (h : isDg c = true) : 48 ≤ c ∧ c ≤ 57 := by
  unfold isDg at h
  rw [Bool.and_eq_true] at h
  exact ⟨Nat.le_of_ble_eq_true h.1, Nat.le_of_ble_eq_true h.2⟩
theorem nX_v : ∀ {rs : List Nat}, (∀ c ∈ rs, isDg c = true) → nX rs = Int32.ofNat (nN rs) ∧ nN rs < 10 ^ rs.length
  | [], _ => ⟨rfl, by decide⟩
  | c :: rs, h => by
    obtain ⟨h1, h2⟩ := nX_v (rs := rs) (fun d hd => h d (List.mem_cons_of_mem _ hd))
    have hc := h c List.mem_cons_self
    have hb := dg_b hc
    refine ⟨?_, ?_⟩
    · show cond (isLt c) (nX rs) (nX rs * Int32.ofNat 10 + (Int32.ofNat c - Int32.ofNat 48)) = _
      rw [lt_dg hc]
      show nX rs * Int32.ofNat 10 + (Int32.ofNat c - Int32.ofNat 48) = Int32.ofNat (nN rs * 10 + (c - 48))
      rw [h1, Int32.ofNat_add, Int32.ofNat_mul, n_sub hb.1]
    · show nN rs * 10 + (c - 48) < 10 ^ (rs.length + 1)
      rw [Nat.pow_succ]
      omega
theorem kL_pos {c : Nat} (hc : isLt c = true) : ∀ {rs : List Nat}, c ∈ rs → kL rs ≠ 0
  | [], h => absurd h List.not_mem_nil
  | d :: rs, h => by
    show cond (isLt d) (kL rs + 1) (kL rs) ≠ 0
    rcases List.mem_cons.mp h with rfl | h
    · rw [hc]; exact Nat.succ_ne_zero _
    · have := kL_pos hc h
      cases isLt d with
      | true => exact Nat.succ_ne_zero _
      | false => exact this
theorem kD_pos {c : Nat} (hc : isLt c = false) : ∀ {rs : List Nat}, c ∈ rs → kD rs ≠ 0
  | [], h => absurd h List.not_mem_nil
  | d :: rs, h => by
    show cond (isLt d) (kD rs) (kD rs + 1) ≠ 0
    rcases List.mem_cons.mp h with rfl | h
    · rw [hc]; exact Nat.succ_ne_zero _
    · have := kD_pos hc h
      cases isLt d with
      | true => exact this
      | false => exact Nat.succ_ne_zero _
theorem kL_all : ∀ {rs : List Nat}, (∀ c ∈ rs, isLt c = true ∨ isDg c = true) → kL rs = 0 → ∀ c ∈ rs, isDg c = true
  | [], _, _ => fun c hc => absurd hc List.not_mem_nil
  | d :: rs, h, h0 => by
    have h0 : cond (isLt d) (kL rs + 1) (kL rs) = 0 := h0
    cases hd : isLt d with
    | true => rw [hd] at h0; cases h0
    | false =>
      rw [hd] at h0
      intro c hc
      rcases List.mem_cons.mp hc with rfl | hc
      · rcases h c List.mem_cons_self with e | e
        · rw [hd] at e; cases e
        · exact e
      · exact kL_all (fun c hc => h c (List.mem_cons_of_mem _ hc)) h0 c hc
theorem tok_rel (B : Nat → Nat) (hb : ∀ i, B i < 256) (n lim a : Nat) (ha : a ≤ n) (nu sg : Int32) (wd : Int64) : TR (advV B n lim a) (goV B n lim a nu sg wd) := by
  have hs := skp_le B (n - a) a
  unfold advV goV
  generalize skp B (n - a) a = s at hs ⊢
  by_cases c1 : lim ≤ s ∧ lim < n
  · rw [if_pos c1, if_pos (show lim < n ∧ lim ≤ s from ⟨c1.2, c1.1⟩)]
    exact ⟨rfl, rfl, (by decide : (0 : Nat) ≤ 4), rfl, fun e => absurd (show (0 : Nat) = 1 from e) (by decide), fun _ => rfl, fun e => absurd (show (0 : Nat) = 2 from e) (by decide), fun e => absurd (show (0 : Nat) = 3 from e) (by decide)⟩
  · rw [if_neg c1, if_neg (show ¬ (lim < n ∧ lim ≤ s) from fun e => c1 ⟨e.2, e.1⟩)]
    by_cases c2 : n ≤ s
    · rw [if_pos c2, if_pos c2]
      have e : s = n := by omega
      exact ⟨rfl, e.symm, (by decide : (4 : Nat) ≤ 4), rfl, fun e => absurd (show (4 : Nat) = 1 from e) (by decide), fun _ => rfl, fun e => absurd (show (4 : Nat) = 2 from e) (by decide), fun e => absurd (show (4 : Nat) = 3 from e) (by decide)⟩
    · rw [if_neg c2, if_neg c2]
      by_cases c3 : isLt (B s) = true ∨ isDg (B s) = true
      · rw [if_pos c3, if_pos c3]
        obtain ⟨ds, e1, e2, e3, -, e5⟩ := both_run B (isLt (B s)) s (n - s) s [] rfl
        have hm := e5 (by omega) c3
        rw [List.append_nil] at e1 e2
        have e1 : xrun B (n - s) s 0 0 0 0 = (s + ds.length, kL ds, kD ds, fX ds, nX ds) := e1
        have e2 : mrun B (isLt (B s)) s (n - s) s true 0 0 = (s + ds.length, gM (isLt (B s)) ds, wM ds, nM ds) := e2
        unfold rrV
        rw [e1, e2]
        have hsub : s + ds.length - s = ds.length := by omega
        show TR (s + ds.length, (if kD ds = 0 ∧ kL ds ≤ 7 then (1, wix (fX ds) 32 0) else if kL ds = 0 ∧ kD ds ≤ 3 then (2, 0) else (0, 0)).1, s, (if kD ds = 0 ∧ kL ds ≤ 7 then (1, wix (fX ds) 32 0) else if kL ds = 0 ∧ kD ds ≤ 3 then (2, 0) else (0, 0)).2, fX ds, nX ds) (s + ds.length, s, goK (isLt (B s)) (gM (isLt (B s)) ds) (s + ds.length - s), nM ds, sg, wM ds)
        rw [hsub]
        have hlen := cLD (rs := ds)
        have hpos : 1 ≤ ds.length := by
          cases ds with
          | nil => exact absurd hm List.not_mem_nil
          | cons d ds => rw [List.length_cons]; omega
        cases hlt : isLt (B s) with
        | true =>
          have hL := kL_pos hlt hm
          by_cases d1 : kD ds = 0
          · obtain ⟨v1, v2, v3⟩ := kD_0 d1
            by_cases d2 : ds.length ≤ 7
            · rw [if_pos ⟨d1, by omega⟩, show goK true (gM true ds) ds.length = 2 from by rw [gM_t.mpr d1]; exact if_neg (fun e => e.elim (fun e => by cases e) (fun e => by have e : 7 < ds.length := e; omega))]
              exact ⟨rfl, rfl, (by decide : (1 : Nat) ≤ 4), rfl, fun _ => ⟨ds, v1, hpos, d2, v2, wM_p d2, by show wix (fX ds) 32 0 = _; rw [v2]⟩, fun e => absurd rfl e, fun e => absurd (show (1 : Nat) = 2 from e) (by decide), fun e => absurd (show (1 : Nat) = 3 from e) (by decide)⟩
            · rw [if_neg (fun e => by omega), if_neg (fun e => hL e.1), show goK true (gM true ds) ds.length = 1 from if_pos (Or.inr (show 7 < ds.length by omega))]
              exact ⟨rfl, rfl, (by decide : (0 : Nat) ≤ 4), rfl, fun e => absurd (show (0 : Nat) = 1 from e) (by decide), fun _ => rfl, fun e => absurd (show (0 : Nat) = 2 from e) (by decide), fun e => absurd (show (0 : Nat) = 3 from e) (by decide)⟩
          · have hg : gM true ds = false := by
              cases e : gM true ds with
              | false => rfl
              | true => exact absurd (gM_t.mp e) d1
            rw [if_neg (fun e => d1 e.1), if_neg (fun e => hL e.1), hg, show goK true false ds.length = 1 from if_pos (Or.inl rfl)]
            exact ⟨rfl, rfl, (by decide : (0 : Nat) ≤ 4), rfl, fun e => absurd (show (0 : Nat) = 1 from e) (by decide), fun _ => rfl, fun e => absurd (show (0 : Nat) = 2 from e) (by decide), fun e => absurd (show (0 : Nat) = 3 from e) (by decide)⟩
        | false =>
          have hD := kD_pos hlt hm
          by_cases d1 : kL ds = 0
          · by_cases d2 : ds.length ≤ 3
            · obtain ⟨v1, v2⟩ := kL_0 d1 d2
              obtain ⟨w1, w2⟩ := nX_v (kL_all e3 d1)
              have hp : 10 ^ ds.length ≤ 10 ^ 3 := Nat.pow_le_pow_right (by decide) d2
              rw [if_neg (fun e => hD e.1), if_pos ⟨d1, by omega⟩, show goK false (gM false ds) ds.length = 3 from by rw [gM_f.mpr d1]; exact if_neg (fun e => e.elim (fun e => by cases e) (fun e => by have e : 3 < ds.length := e; omega))]
              exact ⟨rfl, rfl, (by decide : (2 : Nat) ≤ 4), rfl, fun e => absurd (show (2 : Nat) = 1 from e) (by decide), fun _ => rfl, fun _ => ⟨nN ds, by omega, w1, by show nM ds = _; rw [← v1]; exact w1⟩, fun e => absurd (show (2 : Nat) = 3 from e) (by decide)⟩
            · rw [if_neg (fun e => hD e.1), if_neg (fun e => by omega), show goK false (gM false ds) ds.length = 1 from if_pos (Or.inr (show 3 < ds.length by omega))]
              exact ⟨rfl, rfl, (by decide : (0 : Nat) ≤ 4), rfl, fun e => absurd (show (0 : Nat) = 1 from e) (by decide), fun _ => rfl, fun e => absurd (show (0 : Nat) = 2 from e) (by decide), fun e => absurd (show (0 : Nat) = 3 from e) (by decide)⟩
          · have hg : gM false ds = false := by
              cases e : gM false ds with
              | false => rfl
              | true => exact absurd (gM_f.mp e) d1
            rw [if_neg (fun e => hD e.1), if_neg (fun e => d1 e.1), hg, show goK false false ds.length = 1 from if_pos (Or.inl rfl)]
            exact ⟨rfl, rfl, (by decide : (0 : Nat) ≤ 4), rfl, fun e => absurd (show (0 : Nat) = 1 from e) (by decide), fun _ => rfl, fun e => absurd (show (0 : Nat) = 2 from e) (by decide), fun e => absurd (show (0 : Nat) = 3 from e) (by decide)⟩
      · rw [if_neg c3, if_neg c3]
        cases hk : isMk (B s) with
        | true => exact ⟨rfl, rfl, (by decide : (3 : Nat) ≤ 4), rfl, fun e => absurd (show (3 : Nat) = 1 from e) (by decide), fun _ => rfl, fun e => absurd (show (3 : Nat) = 2 from e) (by decide), fun _ => ⟨B s, hb s, rfl, rfl⟩⟩
        | false => exact ⟨rfl, rfl, (by decide : (0 : Nat) ≤ 4), rfl, fun e => absurd (show (0 : Nat) = 1 from e) (by decide), fun _ => rfl, fun e => absurd (show (0 : Nat) = 2 from e) (by decide), fun e => absurd (show (0 : Nat) = 3 from e) (by decide)⟩
