/-! ===== the call whose answers are compared ===== -/
set_option maxRecDepth 100000 in
/-- sentence -/
theorem op_sentence (l : Launch) (b : Nat) (en ac : Nat → Nat) (D : va_G) {hp : List AE} (I : LInv hp) (X : XX hp) : OpE l b en ac D 38 273 [] hp := by
  obtain ⟨r, hc, m1, e1, f1⟩ := sd_runF sypc_2426 l b en ac D (ρ := 0 :: ([] : List Int32).map (fun z => z.toInt)) (As := .ref 0 :: []) (en_full []) ⟨rfl, trivial⟩ (fun q hq => absurd hq List.not_mem_nil) I.1 (Nat.le_of_ble_eq_true rfl) (by decide +kernel)
  obtain ⟨⟨q1, hd⟩, m2, f2, ⟨r2, hr⟩, A2, G2, z2, R2⟩ := sd_runQF (se_run e1.2.1) l b en ac D (Nat.le_of_ble_eq_true rfl) (by decide +kernel)
  have hr : q1 = some (.int r2) := hr
  subst hr
  have LI : LInv hd := by
    refine li_take I e1.1 (by decide +kernel) A2 G2 (fun R => ⟨R2 R.1, ?_, ?_⟩) (by decide +kernel) (out0_ok (C := sypt_2426) (by decide +kernel) e1) z2
    · exact rr_cp (fun i a1 a2 => ag_off A2 (lo := 0) (hi := 791) (by decide +kernel) (by omega) (by omega)) R.2.1
    · exact rr_cp (fun i a1 a2 => ag_off A2 (lo := 0) (hi := 791) (by decide +kernel) (by omega) (by omega)) R.2.2
  have hlc : Nat.ble 204 hc.length = true := Nat.ble_eq_true_of_le (hh_ln ((e1.1.1 203).trans I.2.2.2))
  exact op_mkE m1 m2 (congrArg Int32.toInt (se_eq I.1 (li_len I) hlc X.2.1 I.2.1 e1.1 (by decide +kernel) f1 f2)) LI I.1 e1.2.1 (xx_two e1.1 (by decide +kernel) A2 (by decide +kernel))
