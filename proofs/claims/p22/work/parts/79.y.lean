/-! ===== fits, kept on both sides ===== -/
set_option maxRecDepth 100000 in
/-- fits -/
theorem op_fits (l : Launch) (b : Nat) (en ac : Nat → Nat) (D : va_G) {hp : List AE} (I : LInv hp) (X : XX hp) : OpE l b en ac D 20 202 [] hp := by
  obtain ⟨r, hc, m1, e1, f1⟩ := sd_runF sypc_2300 l b en ac D (ρ := 0 :: ([] : List Int32).map (fun z => z.toInt)) (As := .ref 0 :: []) (en_full []) ⟨rfl, trivial⟩ (fun q hq => absurd hq List.not_mem_nil) I.1 (Nat.le_of_ble_eq_true rfl) (by decide +kernel)
  obtain ⟨r2, hd, m2, e2, f2⟩ := sd_runF sypc_479 l b en ac D (ρ := 0 :: ([] : List Int32).map (fun z => z.toInt)) (As := .ref 180 :: []) (en_full []) ⟨rfl, trivial⟩ (fun q hq => absurd hq List.not_mem_nil) e1.2.1 (Nat.le_of_ble_eq_true rfl) (by decide +kernel)
  refine op_mkE m1 m2 (congrArg Int32.toInt ((fi_eq I.1 (li_len I) X.2.1.2.1 I.2.1 X.2.1.1 X.2.2 f1 f2).1)) (li_take I e1.1 (by decide +kernel) e2.1 e2.2.1 ?_ (by decide +kernel) (out0_ok (C := sypt_2300) (by decide +kernel) e1) (out0_ok (C := sypt_479) (by decide +kernel) e2)) I.1 e1.2.1 (fun _ => ⟨xx0_keep e2.1 (by decide +kernel) (xx0_keep e1.1 (by decide +kernel) X.1), deep_keep e2.1 (by decide +kernel) (deep_keep e1.1 (by decide +kernel) X.2.1), (fi_eq I.1 (li_len I) X.2.1.2.1 I.2.1 X.2.1.1 X.2.2 f1 f2).2⟩)
  exact fun R => rt_quiet e2.1 (by decide +kernel) R
