/-! ===== the call whose answers are compared ===== -/
set_option maxRecDepth 100000 in
/-- fault -/
theorem op_fault (l : Launch) (b : Nat) (en ac : Nat → Nat) (D : va_G) {hp : List AE} (I : LInv hp) (X : XX hp) : OpE l b en ac D 17 198 [] hp := by
  obtain ⟨r, hc, m1, e1, f1⟩ := sd_runF sypc_2242 l b en ac D (ρ := 0 :: ([] : List Int32).map (fun z => z.toInt)) (As := .ref 0 :: []) (en_full []) ⟨rfl, trivial⟩ (fun q hq => absurd hq List.not_mem_nil) I.1 (Nat.le_of_ble_eq_true rfl) (by decide +kernel)
  have I1 := li_quiet I e1.1 e1.2.1 (by decide +kernel)
  obtain ⟨r2, hd, m2, e2, f2⟩ := sd_runF sypc_233 l b en ac D (ρ := 0 :: ([] : List Int32).map (fun z => z.toInt)) (As := .ref 180 :: []) (en_full []) ⟨rfl, trivial⟩ (fun q hq => absurd hq List.not_mem_nil) I1.1 (Nat.le_of_ble_eq_true rfl) (by decide +kernel)
  exact op_mkE m1 m2 (congrArg Int32.toInt (ft_eq I.1 (li_len I) X.2.1.2.1 I.2.1 X.2.2 f1 f2)) (li_quiet I1 e2.1 e2.2.1 (by decide +kernel)) I.1 I1.1 (xx_two e1.1 (by decide +kernel) e2.1 (by decide +kernel))
