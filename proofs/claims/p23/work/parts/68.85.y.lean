/-! ===== Math.abs, as the small machine runs it ===== -/
theorem abs_at {mi : Nat} (hn : mY MM mi = Lib.Math.abs.name) : mi = 299 := by
  have hs : ∀ i, i < 304 → mY MM i = Lib.Math.abs.name → i = 299 := by decide +kernel
  by_cases hi : mi < 304
  · exact hs mi hi hn
  · exfalso
    have h1 : ev_tb[mi / 16]? = none := List.getElem?_eq_none (by rw [show ev_tb.length = 19 from rfl]; omega)
    have h2 : ev_at mi = ev_d0 := by unfold ev_at; rw [h1]; rfl
    have hn2 : (ev_at mi).1 = Lib.Math.abs.name := hn
    rw [h2] at hn2
    exact absurd hn2 (by decide)
theorem MM_abs : ev_abs MM := by
  intro mi hn F d As hp q h
  have hm := abs_at hn
  subst hm
  obtain ⟨⟨h1, -⟩, h3⟩ := ev_if h
  cases As with
  | nil => cases F <;> cases h3
  | cons v r =>
    cases v with
    | int a =>
      cases r with
      | cons w r =>
        exfalso
        have hv : ∀ v : Value, 1 ≤ (if v.category = 2 then [Slot.val v, Slot.second] else [Slot.val v]).length := fun v => by split <;> simp
        have hl : mL MM 299 = 1 := by decide +kernel
        have a1 := hv (.int a)
        have a2 := hv w
        rw [hl] at h1
        unfold lg_sl at h1
        rw [List.flatMap_cons, List.flatMap_cons, List.length_append, List.length_append] at h1
        omega
      | nil =>
        refine ⟨a, rfl, ?_⟩
        match F, h3 with
        | 0, h3 => cases h3
        | 1, h3 => cases h3
        | F + 2, h3 =>
          have h3 : ev_r MM (evF (F + 2) MM d) 299 F (if 0 ≤ a then 9 else 4) [(0, .int a)] [] hp 0 0 = some q := h3
          by_cases h0 : 0 ≤ a
          · rw [if_pos h0] at h3 ⊢
            match F, h3 with
            | 0, h3 => cases h3
            | 1, h3 => cases h3
            | F + 2, h3 => cases h3; rfl
          · rw [if_neg h0] at h3 ⊢
            match F, h3 with
            | 0, h3 => cases h3
            | 1, h3 => cases h3
            | 2, h3 => cases h3
            | 3, h3 => cases h3
            | F + 4, h3 => cases h3; simp
    | _ => cases F <;> cases h3
