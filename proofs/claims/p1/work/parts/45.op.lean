/-! ===== each call on fresh objects: class and reference answer alike ===== -/
set_option maxRecDepth 100000 in
/-- feed -/
theorem op_0 (l : Launch) (b : Nat) (en ac : Nat → Nat) (D : va_G) (z z2 z3 z4 z5 : Int32) : ∃ (r : Int32) (hc hd : List AE) (fs : List Value), ev_M l b en ac D MM 9 17 [.ref 0, .int z, .int z2, .int z3, .int z4, .int z5] ev_hB (some (.int r), hc) ∧ ev_M l b en ac D MM 9 112 [.ref 180, .int z, .int z2, .int z3, .int z4, .int z5] hc (some (.int r), hd) ∧ hc[180]? = some (.inr (11, fs)) := by
  exact op_feed l b en ac D z z2 z3 z4 z5
set_option maxRecDepth 100000 in
/-- end -/
theorem op_1 (l : Launch) (b : Nat) (en ac : Nat → Nat) (D : va_G) (z : Int32) : ∃ (r : Int32) (hc hd : List AE) (fs : List Value), ev_M l b en ac D MM 9 15 [.ref 0, .int z] ev_hB (some (.int r), hc) ∧ ev_M l b en ac D MM 9 110 [.ref 180, .int z] hc (some (.int r), hd) ∧ hc[180]? = some (.inr (11, fs)) := by
  by_cases h : z < 0
  · exact ⟨0, ev_hB, ev_hB, _, cx_end_n l b en ac D 8 z h, cm_end_n l b en ac D 8 z h, rfl⟩
  · by_cases h2 : z ≤ 0
    · have e : z = 0 := Int32.le_antisymm h2 (Int32.not_lt.mp h)
      subst e
      obtain ⟨hd, h⟩ := ev_isv_ok om_end_0
      exact ⟨_, hc_end_0, hd, _, ev_ok l b en ac D MM_val 9 _ _ _ _ (ev_is_ok ox_end_0), ev_ok l b en ac D MM_val 9 _ _ _ _ h, rfl⟩
    · exact ⟨0, ev_hB, ev_hB, _, cx_end_p l b en ac D 8 z h h2, cm_end_p l b en ac D 8 z h h2, rfl⟩
set_option maxRecDepth 100000 in
/-- duchy -/
theorem op_2 (l : Launch) (b : Nat) (en ac : Nat → Nat) (D : va_G) : ∃ (r : Int32) (hc hd : List AE) (fs : List Value), ev_M l b en ac D MM 9 13 [.ref 0] ev_hB (some (.int r), hc) ∧ ev_M l b en ac D MM 9 108 [.ref 180] hc (some (.int r), hd) ∧ hc[180]? = some (.inr (11, fs)) := by
  obtain ⟨hd, h⟩ := ev_isv_ok om_duchy
  exact ⟨_, hc_duchy, hd, _, ev_ok l b en ac D MM_val 9 _ _ _ _ (ev_is_ok ox_duchy), ev_ok l b en ac D MM_val 9 _ _ _ _ h, rfl⟩
set_option maxRecDepth 100000 in
/-- fault -/
theorem op_3 (l : Launch) (b : Nat) (en ac : Nat → Nat) (D : va_G) : ∃ (r : Int32) (hc hd : List AE) (fs : List Value), ev_M l b en ac D MM 9 16 [.ref 0] ev_hB (some (.int r), hc) ∧ ev_M l b en ac D MM 9 111 [.ref 180] hc (some (.int r), hd) ∧ hc[180]? = some (.inr (11, fs)) := by
  obtain ⟨hd, h⟩ := ev_isv_ok om_fault
  exact ⟨_, hc_fault, hd, _, ev_ok l b en ac D MM_val 9 _ _ _ _ (ev_is_ok ox_fault), ev_ok l b en ac D MM_val 9 _ _ _ _ h, rfl⟩
set_option maxRecDepth 100000 in
/-- skill -/
theorem op_5 (l : Launch) (b : Nat) (en ac : Nat → Nat) (D : va_G) (z z2 : Int32) : ∃ (r : Int32) (hc hd : List AE) (fs : List Value), ev_M l b en ac D MM 9 36 [.ref 0, .int z, .int z2] ev_hB (some (.int r), hc) ∧ ev_M l b en ac D MM 9 148 [.ref 180, .int z, .int z2] hc (some (.int r), hd) ∧ hc[180]? = some (.inr (11, fs)) := by
  exact ⟨-1, ev_hB, ev_hB, _, cx_skill l b en ac D 7 z z2, cm_skill l b en ac D 6 z z2, rfl⟩
set_option maxRecDepth 100000 in
/-- deed -/
theorem op_6 (l : Launch) (b : Nat) (en ac : Nat → Nat) (D : va_G) (z z2 : Int32) : ∃ (r : Int32) (hc hd : List AE) (fs : List Value), ev_M l b en ac D MM 9 10 [.ref 0, .int z, .int z2] ev_hB (some (.int r), hc) ∧ ev_M l b en ac D MM 9 105 [.ref 180, .int z, .int z2] hc (some (.int r), hd) ∧ hc[180]? = some (.inr (11, fs)) := by
  exact ⟨-1, ev_hB, ev_hB, _, cx_deed l b en ac D 7 z z2, cm_deed l b en ac D 6 z z2, rfl⟩
set_option maxRecDepth 100000 in
/-- now -/
theorem op_7 (l : Launch) (b : Nat) (en ac : Nat → Nat) (D : va_G) (z : Int32) : ∃ (r : Int32) (hc hd : List AE) (fs : List Value), ev_M l b en ac D MM 9 27 [.ref 0, .int z] ev_hB (some (.int r), hc) ∧ ev_M l b en ac D MM 9 132 [.ref 180, .int z] hc (some (.int r), hd) ∧ hc[180]? = some (.inr (11, fs)) := by
  by_cases h : z.toInt < 0 ∨ 7 < z.toInt
  · exact ⟨-1, ev_hB, ev_hB, _, cx_now_o l b en ac D 8 z h, cm_now_o l b en ac D 8 z h, rfl⟩
  · have e0 : (0 : Int32).toInt = 0 := by decide +kernel
    have e1 : (7 : Int32).toInt = 7 := by decide +kernel
    obtain ⟨j, hj, rfl⟩ := nI_of2 (x := z) (M := 7) (n := 7) e1 (fun q => h (Or.inl (by have := Int32.lt_iff_toInt_lt.mp q; omega))) (Int32.le_iff_toInt_le.mpr (by omega))
    match j, hj with
    | 0, _ =>
      obtain ⟨hd, h⟩ := ev_isv_ok om_now_0
      exact ⟨_, hc_now_0, hd, _, ev_ok l b en ac D MM_val 9 _ _ _ _ (ev_is_ok ox_now_0), ev_ok l b en ac D MM_val 9 _ _ _ _ h, rfl⟩
    | 1, _ =>
      obtain ⟨hd, h⟩ := ev_isv_ok om_now_1
      exact ⟨_, hc_now_1, hd, _, ev_ok l b en ac D MM_val 9 _ _ _ _ (ev_is_ok ox_now_1), ev_ok l b en ac D MM_val 9 _ _ _ _ h, rfl⟩
    | 2, _ =>
      obtain ⟨hd, h⟩ := ev_isv_ok om_now_2
      exact ⟨_, hc_now_2, hd, _, ev_ok l b en ac D MM_val 9 _ _ _ _ (ev_is_ok ox_now_2), ev_ok l b en ac D MM_val 9 _ _ _ _ h, rfl⟩
    | 3, _ =>
      obtain ⟨hd, h⟩ := ev_isv_ok om_now_3
      exact ⟨_, hc_now_3, hd, _, ev_ok l b en ac D MM_val 9 _ _ _ _ (ev_is_ok ox_now_3), ev_ok l b en ac D MM_val 9 _ _ _ _ h, rfl⟩
    | 4, _ =>
      obtain ⟨hd, h⟩ := ev_isv_ok om_now_4
      exact ⟨_, hc_now_4, hd, _, ev_ok l b en ac D MM_val 9 _ _ _ _ (ev_is_ok ox_now_4), ev_ok l b en ac D MM_val 9 _ _ _ _ h, rfl⟩
    | 5, _ =>
      obtain ⟨hd, h⟩ := ev_isv_ok om_now_5
      exact ⟨_, hc_now_5, hd, _, ev_ok l b en ac D MM_val 9 _ _ _ _ (ev_is_ok ox_now_5), ev_ok l b en ac D MM_val 9 _ _ _ _ h, rfl⟩
    | 6, _ =>
      obtain ⟨hd, h⟩ := ev_isv_ok om_now_6
      exact ⟨_, hc_now_6, hd, _, ev_ok l b en ac D MM_val 9 _ _ _ _ (ev_is_ok ox_now_6), ev_ok l b en ac D MM_val 9 _ _ _ _ h, rfl⟩
    | 7, _ =>
      obtain ⟨hd, h⟩ := ev_isv_ok om_now_7
      exact ⟨_, hc_now_7, hd, _, ev_ok l b en ac D MM_val 9 _ _ _ _ (ev_is_ok ox_now_7), ev_ok l b en ac D MM_val 9 _ _ _ _ h, rfl⟩
    | j + 8, hj => exact absurd hj (by omega)
set_option maxRecDepth 100000 in
/-- does -/
theorem op_8 (l : Launch) (b : Nat) (en ac : Nat → Nat) (D : va_G) (z z2 z3 : Int32) : ∃ (r : Int32) (hc hd : List AE) (fs : List Value), ev_M l b en ac D MM 9 11 [.ref 0, .int z, .int z2, .int z3] ev_hB (some (.int r), hc) ∧ ev_M l b en ac D MM 9 106 [.ref 180, .int z, .int z2, .int z3] hc (some (.int r), hd) ∧ hc[180]? = some (.inr (11, fs)) := by
  exact ⟨-1, ev_hB, ev_hB, _, cx_does l b en ac D 7 z z2 z3, cm_does l b en ac D 6 z z2 z3, rfl⟩
set_option maxRecDepth 100000 in
/-- wed -/
theorem op_9 (l : Launch) (b : Nat) (en ac : Nat → Nat) (D : va_G) (z z2 : Int32) : ∃ (r : Int32) (hc hd : List AE) (fs : List Value), ev_M l b en ac D MM 9 42 [.ref 0, .int z, .int z2] ev_hB (some (.int r), hc) ∧ ev_M l b en ac D MM 9 158 [.ref 180, .int z, .int z2] hc (some (.int r), hd) ∧ hc[180]? = some (.inr (11, fs)) := by
  exact ⟨-1, ev_hB, ev_hB, _, cx_wed l b en ac D 7 z z2, cm_wed l b en ac D 6 z z2, rfl⟩
set_option maxRecDepth 100000 in
/-- part -/
theorem op_10 (l : Launch) (b : Nat) (en ac : Nat → Nat) (D : va_G) (z : Int32) : ∃ (r : Int32) (hc hd : List AE) (fs : List Value), ev_M l b en ac D MM 9 29 [.ref 0, .int z] ev_hB (some (.int r), hc) ∧ ev_M l b en ac D MM 9 135 [.ref 180, .int z] hc (some (.int r), hd) ∧ hc[180]? = some (.inr (11, fs)) := by
  exact ⟨-1, ev_hB, ev_hB, _, cx_part l b en ac D 7 z, cm_part l b en ac D 6 z, rfl⟩
set_option maxRecDepth 100000 in
/-- glove -/
theorem op_11 (l : Launch) (b : Nat) (en ac : Nat → Nat) (D : va_G) (z : Int32) : ∃ (r : Int32) (hc hd : List AE) (fs : List Value), ev_M l b en ac D MM 9 20 [.ref 0, .int z] ev_hB (some (.int r), hc) ∧ ev_M l b en ac D MM 9 115 [.ref 180, .int z] hc (some (.int r), hd) ∧ hc[180]? = some (.inr (11, fs)) := by
  exact ⟨-1, ev_hB, ev_hB, _, cx_glove l b en ac D 7 z, cm_glove l b en ac D 6 z, rfl⟩
set_option maxRecDepth 100000 in
/-- bare -/
theorem op_12 (l : Launch) (b : Nat) (en ac : Nat → Nat) (D : va_G) (z : Int32) : ∃ (r : Int32) (hc hd : List AE) (fs : List Value), ev_M l b en ac D MM 9 2 [.ref 0, .int z] ev_hB (some (.int r), hc) ∧ ev_M l b en ac D MM 9 95 [.ref 180, .int z] hc (some (.int r), hd) ∧ hc[180]? = some (.inr (11, fs)) := by
  exact ⟨-1, ev_hB, ev_hB, _, cx_bare l b en ac D 7 z, cm_bare l b en ac D 6 z, rfl⟩
set_option maxRecDepth 100000 in
/-- days -/
theorem op_13 (l : Launch) (b : Nat) (en ac : Nat → Nat) (D : va_G) (z : Int32) : ∃ (r : Int32) (hc hd : List AE) (fs : List Value), ev_M l b en ac D MM 9 9 [.ref 0, .int z] ev_hB (some (.int r), hc) ∧ ev_M l b en ac D MM 9 104 [.ref 180, .int z] hc (some (.int r), hd) ∧ hc[180]? = some (.inr (11, fs)) := by
  by_cases h : z < 1 ∨ (60 : Int32) < z
  · exact ⟨-1, ev_hB, ev_hB, _, cx_days_o l b en ac D 8 z h, cm_days_o l b en ac D 7 z h, rfl⟩
  · exact op_days_in l b en ac D z (fun q => h (Or.inl q)) (fun q => h (Or.inr q))
set_option maxRecDepth 100000 in
/-- undo -/
theorem op_14 (l : Launch) (b : Nat) (en ac : Nat → Nat) (D : va_G) : ∃ (r : Int32) (hc hd : List AE) (fs : List Value), ev_M l b en ac D MM 9 41 [.ref 0] ev_hB (some (.int r), hc) ∧ ev_M l b en ac D MM 9 157 [.ref 180] hc (some (.int r), hd) ∧ hc[180]? = some (.inr (11, fs)) := by
  obtain ⟨hd, h⟩ := ev_isv_ok om_undo
  exact ⟨_, hc_undo, hd, _, ev_ok l b en ac D MM_val 9 _ _ _ _ (ev_is_ok ox_undo), ev_ok l b en ac D MM_val 9 _ _ _ _ h, rfl⟩
set_option maxRecDepth 100000 in
/-- able -/
theorem op_15 (l : Launch) (b : Nat) (en ac : Nat → Nat) (D : va_G) (z z2 : Int32) : ∃ (r : Int32) (hc hd : List AE) (fs : List Value), ev_M l b en ac D MM 9 1 [.ref 0, .int z, .int z2] ev_hB (some (.int r), hc) ∧ ev_M l b en ac D MM 9 92 [.ref 180, .int z, .int z2] hc (some (.int r), hd) ∧ hc[180]? = some (.inr (11, fs)) := by
  exact ⟨-1, ev_hB, ev_hB, _, cx_able l b en ac D 7 z z2, cm_able l b en ac D 6 z z2, rfl⟩
set_option maxRecDepth 100000 in
/-- parted -/
theorem op_16 (l : Launch) (b : Nat) (en ac : Nat → Nat) (D : va_G) : ∃ (r : Int32) (hc hd : List AE) (fs : List Value), ev_M l b en ac D MM 9 30 [.ref 0] ev_hB (some (.int r), hc) ∧ ev_M l b en ac D MM 9 136 [.ref 180] hc (some (.int r), hd) ∧ hc[180]? = some (.inr (11, fs)) := by
  obtain ⟨hd, h⟩ := ev_isv_ok om_parted
  exact ⟨_, hc_parted, hd, _, ev_ok l b en ac D MM_val 9 _ _ _ _ (ev_is_ok ox_parted), ev_ok l b en ac D MM_val 9 _ _ _ _ h, rfl⟩
set_option maxRecDepth 100000 in
/-- partedAt -/
theorem op_17 (l : Launch) (b : Nat) (en ac : Nat → Nat) (D : va_G) (z z2 : Int32) : ∃ (r : Int32) (hc hd : List AE) (fs : List Value), ev_M l b en ac D MM 9 31 [.ref 0, .int z, .int z2] ev_hB (some (.int r), hc) ∧ ev_M l b en ac D MM 9 137 [.ref 180, .int z, .int z2] hc (some (.int r), hd) ∧ hc[180]? = some (.inr (11, fs)) := by
  exact ⟨-1, ev_hB, ev_hB, _, cx_partedAt l b en ac D 7 z z2, cm_partedAt l b en ac D 7 z z2, rfl⟩
set_option maxRecDepth 100000 in
/-- fits -/
theorem op_18 (l : Launch) (b : Nat) (en ac : Nat → Nat) (D : va_G) : ∃ (r : Int32) (hc hd : List AE) (fs : List Value), ev_M l b en ac D MM 9 19 [.ref 0] ev_hB (some (.int r), hc) ∧ ev_M l b en ac D MM 9 114 [.ref 180] hc (some (.int r), hd) ∧ hc[180]? = some (.inr (11, fs)) := by
  obtain ⟨hd, h⟩ := ev_isv_ok om_fits
  exact ⟨_, hc_fits, hd, _, ev_ok l b en ac D MM_val 9 _ _ _ _ (ev_is_ok ox_fits), ev_ok l b en ac D MM_val 9 _ _ _ _ h, rfl⟩
set_option maxRecDepth 100000 in
/-- fitAt -/
theorem op_19 (l : Launch) (b : Nat) (en ac : Nat → Nat) (D : va_G) (z : Int32) : ∃ (r : Int32) (hc hd : List AE) (fs : List Value), ev_M l b en ac D MM 9 18 [.ref 0, .int z] ev_hB (some (.int r), hc) ∧ ev_M l b en ac D MM 9 113 [.ref 180, .int z] hc (some (.int r), hd) ∧ hc[180]? = some (.inr (11, fs)) := by
  exact ⟨-1, ev_hB, ev_hB, _, cx_fitAt l b en ac D 7 z, cm_fitAt l b en ac D 7 z, rfl⟩
set_option maxRecDepth 100000 in
/-- test -/
theorem op_20 (l : Launch) (b : Nat) (en ac : Nat → Nat) (D : va_G) : ∃ (r : Int32) (hc hd : List AE) (fs : List Value), ev_M l b en ac D MM 9 39 [.ref 0] ev_hB (some (.int r), hc) ∧ ev_M l b en ac D MM 9 155 [.ref 180] hc (some (.int r), hd) ∧ hc[180]? = some (.inr (11, fs)) := by
  obtain ⟨hd, h⟩ := ev_isv_ok om_test
  exact ⟨_, hc_test, hd, _, ev_ok l b en ac D MM_val 9 _ _ _ _ (ev_is_ok ox_test), ev_ok l b en ac D MM_val 9 _ _ _ _ h, rfl⟩
set_option maxRecDepth 100000 in
/-- hears -/
theorem op_21 (l : Launch) (b : Nat) (en ac : Nat → Nat) (D : va_G) (z z2 : Int32) : ∃ (r : Int32) (hc hd : List AE) (fs : List Value), ev_M l b en ac D MM 9 23 [.ref 0, .int z, .int z2] ev_hB (some (.int r), hc) ∧ ev_M l b en ac D MM 9 120 [.ref 180, .int z, .int z2] hc (some (.int r), hd) ∧ hc[180]? = some (.inr (11, fs)) := by
  exact ⟨-1, ev_hB, ev_hB, _, cx_hears l b en ac D 7 z z2, cm_hears l b en ac D 6 z z2, rfl⟩
set_option maxRecDepth 100000 in
/-- guards -/
theorem op_22 (l : Launch) (b : Nat) (en ac : Nat → Nat) (D : va_G) : ∃ (r : Int32) (hc hd : List AE) (fs : List Value), ev_M l b en ac D MM 9 22 [.ref 0] ev_hB (some (.int r), hc) ∧ ev_M l b en ac D MM 9 118 [.ref 180] hc (some (.int r), hd) ∧ hc[180]? = some (.inr (11, fs)) := by
  obtain ⟨hd, h⟩ := ev_isv_ok om_guards
  exact ⟨_, hc_guards, hd, _, ev_ok l b en ac D MM_val 9 _ _ _ _ (ev_is_ok ox_guards), ev_ok l b en ac D MM_val 9 _ _ _ _ h, rfl⟩
set_option maxRecDepth 100000 in
/-- guarding -/
theorem op_23 (l : Launch) (b : Nat) (en ac : Nat → Nat) (D : va_G) : ∃ (r : Int32) (hc hd : List AE) (fs : List Value), ev_M l b en ac D MM 9 21 [.ref 0] ev_hB (some (.int r), hc) ∧ ev_M l b en ac D MM 9 117 [.ref 180] hc (some (.int r), hd) ∧ hc[180]? = some (.inr (11, fs)) := by
  obtain ⟨hd, h⟩ := ev_isv_ok om_guarding
  exact ⟨_, hc_guarding, hd, _, ev_ok l b en ac D MM_val 9 _ _ _ _ (ev_is_ok ox_guarding), ev_ok l b en ac D MM_val 9 _ _ _ _ h, rfl⟩
set_option maxRecDepth 100000 in
/-- best -/
theorem op_24 (l : Launch) (b : Nat) (en ac : Nat → Nat) (D : va_G) : ∃ (r : Int32) (hc hd : List AE) (fs : List Value), ev_M l b en ac D MM 9 3 [.ref 0] ev_hB (some (.int r), hc) ∧ ev_M l b en ac D MM 9 97 [.ref 180] hc (some (.int r), hd) ∧ hc[180]? = some (.inr (11, fs)) := by
  obtain ⟨hd, h⟩ := ev_isv_ok om_best
  exact ⟨_, hc_best, hd, _, ev_ok l b en ac D MM_val 9 _ _ _ _ (ev_is_ok ox_best), ev_ok l b en ac D MM_val 9 _ _ _ _ h, rfl⟩
set_option maxRecDepth 100000 in
/-- bestOf -/
theorem op_25 (l : Launch) (b : Nat) (en ac : Nat → Nat) (D : va_G) (z : Int32) : ∃ (r : Int32) (hc hd : List AE) (fs : List Value), ev_M l b en ac D MM 9 4 [.ref 0, .int z] ev_hB (some (.int r), hc) ∧ ev_M l b en ac D MM 9 98 [.ref 180, .int z] hc (some (.int r), hd) ∧ hc[180]? = some (.inr (11, fs)) := by
  exact ⟨-1, ev_hB, ev_hB, _, cx_bestOf l b en ac D 7 z, cm_bestOf l b en ac D 8 z, rfl⟩
set_option maxRecDepth 100000 in
/-- earns -/
theorem op_26 (l : Launch) (b : Nat) (en ac : Nat → Nat) (D : va_G) (z : Int32) : ∃ (r : Int32) (hc hd : List AE) (fs : List Value), ev_M l b en ac D MM 9 14 [.ref 0, .int z] ev_hB (some (.int r), hc) ∧ ev_M l b en ac D MM 9 109 [.ref 180, .int z] hc (some (.int r), hd) ∧ hc[180]? = some (.inr (11, fs)) := by
  exact ⟨-1, ev_hB, ev_hB, _, cx_earns l b en ac D 7 z, cm_earns l b en ac D 6 z, rfl⟩
set_option maxRecDepth 100000 in
/-- richest -/
theorem op_27 (l : Launch) (b : Nat) (en ac : Nat → Nat) (D : va_G) : ∃ (r : Int32) (hc hd : List AE) (fs : List Value), ev_M l b en ac D MM 9 33 [.ref 0] ev_hB (some (.int r), hc) ∧ ev_M l b en ac D MM 9 145 [.ref 180] hc (some (.int r), hd) ∧ hc[180]? = some (.inr (11, fs)) := by
  obtain ⟨hd, h⟩ := ev_isv_ok om_richest
  exact ⟨_, hc_richest, hd, _, ev_ok l b en ac D MM_val 9 _ _ _ _ (ev_is_ok ox_richest), ev_ok l b en ac D MM_val 9 _ _ _ _ h, rfl⟩
set_option maxRecDepth 100000 in
/-- slip -/
theorem op_28 (l : Launch) (b : Nat) (en ac : Nat → Nat) (D : va_G) (z : Int32) : ∃ (r : Int32) (hc hd : List AE) (fs : List Value), ev_M l b en ac D MM 9 37 [.ref 0, .int z] ev_hB (some (.int r), hc) ∧ ev_M l b en ac D MM 9 149 [.ref 180, .int z] hc (some (.int r), hd) ∧ hc[180]? = some (.inr (11, fs)) := by
  exact ⟨-1, ev_hB, ev_hB, _, cx_slip l b en ac D 7 z, cm_slip l b en ac D 6 z, rfl⟩
set_option maxRecDepth 100000 in
/-- byteAt -/
theorem op_29 (l : Launch) (b : Nat) (en ac : Nat → Nat) (D : va_G) (z : Int32) : ∃ (r : Int32) (hc hd : List AE) (fs : List Value), ev_M l b en ac D MM 9 7 [.ref 0, .int z] ev_hB (some (.int r), hc) ∧ ev_M l b en ac D MM 9 101 [.ref 180, .int z] hc (some (.int r), hd) ∧ hc[180]? = some (.inr (11, fs)) := by
  exact ⟨-1, ev_hB, ev_hB, _, cx_byteAt l b en ac D 8 z, cm_byteAt l b en ac D 7 z, rfl⟩
set_option maxRecDepth 100000 in
/-- drawn -/
theorem op_30 (l : Launch) (b : Nat) (en ac : Nat → Nat) (D : va_G) (z z2 : Int32) : ∃ (r : Int32) (hc hd : List AE) (fs : List Value), ev_M l b en ac D MM 9 12 [.ref 0, .int z, .int z2] ev_hB (some (.int r), hc) ∧ ev_M l b en ac D MM 9 107 [.ref 180, .int z, .int z2] hc (some (.int r), hd) ∧ hc[180]? = some (.inr (11, fs)) := by
  exact ⟨-1, ev_hB, ev_hB, _, cx_drawn l b en ac D 8 z z2, cm_drawn l b en ac D 7 z z2, rfl⟩
set_option maxRecDepth 100000 in
/-- odds -/
theorem op_31 (l : Launch) (b : Nat) (en ac : Nat → Nat) (D : va_G) (z z2 z3 : Int32) : ∃ (r : Int32) (hc hd : List AE) (fs : List Value), ev_M l b en ac D MM 9 28 [.ref 0, .int z, .int z2, .int z3] ev_hB (some (.int r), hc) ∧ ev_M l b en ac D MM 9 133 [.ref 180, .int z, .int z2, .int z3] hc (some (.int r), hd) ∧ hc[180]? = some (.inr (11, fs)) := by
  exact ⟨-1, ev_hB, ev_hB, _, cx_odds l b en ac D 7 z z2 z3, cm_odds l b en ac D 6 z z2 z3, rfl⟩
set_option maxRecDepth 100000 in
/-- book -/
theorem op_32 (l : Launch) (b : Nat) (en ac : Nat → Nat) (D : va_G) (z : Int32) : ∃ (r : Int32) (hc hd : List AE) (fs : List Value), ev_M l b en ac D MM 9 6 [.ref 0, .int z] ev_hB (some (.int r), hc) ∧ ev_M l b en ac D MM 9 100 [.ref 180, .int z] hc (some (.int r), hd) ∧ hc[180]? = some (.inr (11, fs)) := by
  by_cases h0 : z = 0
  · subst h0
    obtain ⟨hd, h⟩ := ev_isv_ok om_book_0
    exact ⟨_, hc_book_0, hd, _, ev_ok l b en ac D MM_val 9 _ _ _ _ (ev_is_ok ox_book_0), ev_ok l b en ac D MM_val 9 _ _ _ _ h, rfl⟩
  · by_cases h1 : z = 1
    · subst h1
      obtain ⟨hd, h⟩ := ev_isv_ok om_book_1
      exact ⟨_, hc_book_1, hd, _, ev_ok l b en ac D MM_val 9 _ _ _ _ (ev_is_ok ox_book_1), ev_ok l b en ac D MM_val 9 _ _ _ _ h, rfl⟩
    · exact ⟨-1000, ev_hB, ev_hB, _, cx_book_o l b en ac D 8 z h0 h1, cm_book_o l b en ac D 7 z (i_01 z h0 h1), rfl⟩
set_option maxRecDepth 100000 in
/-- told -/
theorem op_33 (l : Launch) (b : Nat) (en ac : Nat → Nat) (D : va_G) (z : Int32) : ∃ (r : Int32) (hc hd : List AE) (fs : List Value), ev_M l b en ac D MM 9 40 [.ref 0, .int z] ev_hB (some (.int r), hc) ∧ ev_M l b en ac D MM 9 156 [.ref 180, .int z] hc (some (.int r), hd) ∧ hc[180]? = some (.inr (11, fs)) := by
  exact ⟨-1, ev_hB, ev_hB, _, cx_told l b en ac D 8 z, cm_told l b en ac D 8 z, rfl⟩
set_option maxRecDepth 100000 in
/-- sentence -/
theorem op_34 (l : Launch) (b : Nat) (en ac : Nat → Nat) (D : va_G) : ∃ (r : Int32) (hc hd : List AE) (fs : List Value), ev_M l b en ac D MM 9 35 [.ref 0] ev_hB (some (.int r), hc) ∧ ev_M l b en ac D MM 9 147 [.ref 180] hc (some (.int r), hd) ∧ hc[180]? = some (.inr (11, fs)) := by
  obtain ⟨hd, h⟩ := ev_isv_ok om_sentence
  exact ⟨_, hc_sentence, hd, _, ev_ok l b en ac D MM_val 9 _ _ _ _ (ev_is_ok ox_sentence), ev_ok l b en ac D MM_val 9 _ _ _ _ h, rfl⟩
set_option maxRecDepth 100000 in
/-- said -/
theorem op_35 (l : Launch) (b : Nat) (en ac : Nat → Nat) (D : va_G) (z : Int32) : ∃ (r : Int32) (hc hd : List AE) (fs : List Value), ev_M l b en ac D MM 9 34 [.ref 0, .int z] ev_hB (some (.int r), hc) ∧ ev_M l b en ac D MM 9 146 [.ref 180, .int z] hc (some (.int r), hd) ∧ hc[180]? = some (.inr (11, fs)) := by
  exact ⟨-1, ev_hB, ev_hB, _, cx_said l b en ac D 8 z, cm_said l b en ac D 8 z, rfl⟩
set_option maxRecDepth 100000 in
/-- image -/
theorem op_36 (l : Launch) (b : Nat) (en ac : Nat → Nat) (D : va_G) (z : Int32) : ∃ (r : Int32) (hc hd : List AE) (fs : List Value), ev_M l b en ac D MM 9 24 [.ref 0, .int z] ev_hB (some (.int r), hc) ∧ ev_M l b en ac D MM 9 121 [.ref 180, .int z] hc (some (.int r), hd) ∧ hc[180]? = some (.inr (11, fs)) := by
  by_cases h0 : z = 0
  · subst h0
    exact op_image_0 l b en ac D
  · by_cases h1 : z = 1
    · subst h1
      exact op_image_1 l b en ac D
    · have h := i_01 z h0 h1
      by_cases hn : z < 0
      · exact ⟨0, ev_hB, ev_hB, _, cx_image_n l b en ac D 8 z hn, cm_image_o l b en ac D 7 z h, rfl⟩
      · have h2 : (2 : Int32) ≤ z := by
          have q1 := Int32.lt_iff_toInt_lt.mp (h.resolve_left hn)
          have e1 : (1 : Int32).toInt = 1 := by decide +kernel
          have e2 : (2 : Int32).toInt = 2 := by decide +kernel
          exact Int32.le_iff_toInt_le.mpr (by omega)
        exact ⟨0, ev_hB, ev_hB, _, cx_image_p l b en ac D 8 z hn h2, cm_image_o l b en ac D 7 z h, rfl⟩
set_option maxRecDepth 100000 in
/-- restore -/
theorem op_37 (l : Launch) (b : Nat) (en ac : Nat → Nat) (D : va_G) (z : Int32) : ∃ (r : Int32) (hc hd : List AE) (fs : List Value), ev_M l b en ac D MM 9 32 [.ref 0, .int z] ev_hB (some (.int r), hc) ∧ ev_M l b en ac D MM 9 144 [.ref 180, .int z] hc (some (.int r), hd) ∧ hc[180]? = some (.inr (11, fs)) := by
  by_cases h0 : z = 0
  · subst h0
    obtain ⟨hd, h⟩ := ev_isv_ok om_restore_0
    exact ⟨_, hc_restore_0, hd, _, ev_ok l b en ac D MM_val 9 _ _ _ _ (ev_is_ok ox_restore_0), ev_ok l b en ac D MM_val 9 _ _ _ _ h, rfl⟩
  · by_cases h1 : z = 1
    · subst h1
      obtain ⟨hd, h⟩ := ev_isv_ok om_restore_1
      exact ⟨_, hc_restore_1, hd, _, ev_ok l b en ac D MM_val 9 _ _ _ _ (ev_is_ok ox_restore_1), ev_ok l b en ac D MM_val 9 _ _ _ _ h, rfl⟩
    · have h := i_01 z h0 h1
      by_cases hn : z < 0
      · exact ⟨0, ev_hB, ev_hB, _, cx_restore_n l b en ac D 8 z hn, cm_restore_o l b en ac D 7 z h, rfl⟩
      · have h2 : (2 : Int32) ≤ z := by
          have q1 := Int32.lt_iff_toInt_lt.mp (h.resolve_left hn)
          have e1 : (1 : Int32).toInt = 1 := by decide +kernel
          have e2 : (2 : Int32).toInt = 2 := by decide +kernel
          exact Int32.le_iff_toInt_le.mpr (by omega)
        exact ⟨0, ev_hB, ev_hB, _, cx_restore_p l b en ac D 8 z hn h2, cm_restore_o l b en ac D 7 z h, rfl⟩
set_option maxRecDepth 100000 in
/-- count -/
theorem op_38 (l : Launch) (b : Nat) (en ac : Nat → Nat) (D : va_G) (z : Int32) : ∃ (r : Int32) (hc hd : List AE) (fs : List Value), ev_M l b en ac D MM 9 8 [.ref 0, .int z] ev_hB (some (.int r), hc) ∧ ev_M l b en ac D MM 9 103 [.ref 180, .int z] hc (some (.int r), hd) ∧ hc[180]? = some (.inr (11, fs)) := by
  by_cases h : z.toInt < 0 ∨ 5 < z.toInt
  · exact ⟨-1, ev_hB, ev_hB, _, cx_count_o l b en ac D 8 z h, cm_count_o l b en ac D 8 z h, rfl⟩
  · have e0 : (0 : Int32).toInt = 0 := by decide +kernel
    have e1 : (5 : Int32).toInt = 5 := by decide +kernel
    obtain ⟨j, hj, rfl⟩ := nI_of2 (x := z) (M := 5) (n := 5) e1 (fun q => h (Or.inl (by have := Int32.lt_iff_toInt_lt.mp q; omega))) (Int32.le_iff_toInt_le.mpr (by omega))
    match j, hj with
    | 0, _ =>
      obtain ⟨hd, h⟩ := ev_isv_ok om_count_0
      exact ⟨_, hc_count_0, hd, _, ev_ok l b en ac D MM_val 9 _ _ _ _ (ev_is_ok ox_count_0), ev_ok l b en ac D MM_val 9 _ _ _ _ h, rfl⟩
    | 1, _ =>
      obtain ⟨hd, h⟩ := ev_isv_ok om_count_1
      exact ⟨_, hc_count_1, hd, _, ev_ok l b en ac D MM_val 9 _ _ _ _ (ev_is_ok ox_count_1), ev_ok l b en ac D MM_val 9 _ _ _ _ h, rfl⟩
    | 2, _ =>
      obtain ⟨hd, h⟩ := ev_isv_ok om_count_2
      exact ⟨_, hc_count_2, hd, _, ev_ok l b en ac D MM_val 9 _ _ _ _ (ev_is_ok ox_count_2), ev_ok l b en ac D MM_val 9 _ _ _ _ h, rfl⟩
    | 3, _ =>
      obtain ⟨hd, h⟩ := ev_isv_ok om_count_3
      exact ⟨_, hc_count_3, hd, _, ev_ok l b en ac D MM_val 9 _ _ _ _ (ev_is_ok ox_count_3), ev_ok l b en ac D MM_val 9 _ _ _ _ h, rfl⟩
    | 4, _ =>
      obtain ⟨hd, h⟩ := ev_isv_ok om_count_4
      exact ⟨_, hc_count_4, hd, _, ev_ok l b en ac D MM_val 9 _ _ _ _ (ev_is_ok ox_count_4), ev_ok l b en ac D MM_val 9 _ _ _ _ h, rfl⟩
    | 5, _ =>
      obtain ⟨hd, h⟩ := ev_isv_ok om_count_5
      exact ⟨_, hc_count_5, hd, _, ev_ok l b en ac D MM_val 9 _ _ _ _ (ev_is_ok ox_count_5), ev_ok l b en ac D MM_val 9 _ _ _ _ h, rfl⟩
    | j + 6, hj => exact absurd hj (by omega)
