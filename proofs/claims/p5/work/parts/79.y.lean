/-! ===== sentence, book: the FAULT kept alike ===== -/
set_option maxRecDepth 100000 in
/-- sentence -/
theorem op_sentence (l : Launch) (b : Nat) (en ac : Nat → Nat) (D : va_G) {hp : List AE} (I : LInv hp) : OpR l b en ac D 38 273 [] hp := by
  obtain ⟨r, hc, m1, e1, f1⟩ := sd_runF sypc_2426 l b en ac D (ρ := 0 :: ([] : List Int32).map (fun z => z.toInt)) (As := .ref 0 :: []) (en_full []) ⟨rfl, trivial⟩ (fun q hq => absurd hq List.not_mem_nil) I.1 (Nat.le_of_ble_eq_true rfl) (by decide +kernel)
  obtain ⟨⟨q1, hd⟩, m2, f2, ⟨r2, hr⟩, A2, G2, z2, R2⟩ := sd_runQF (se_run e1.2.1) l b en ac D (Nat.le_of_ble_eq_true rfl) (by decide +kernel)
  have hr : q1 = some (.int r2) := hr
  subst hr
  have LI : LInv hd := by
    refine li_take I e1.1 (by decide +kernel) A2 G2 (fun R => ⟨R2 R.1, ?_, ?_⟩) (by decide +kernel) (out0_ok (C := sypt_2426) (by decide +kernel) e1) z2
    · exact rr_cp (fun i a1 a2 => ag_off A2 (lo := 0) (hi := 791) (by decide +kernel) (by omega) (by omega)) R.2.1
    · exact rr_cp (fun i a1 a2 => ag_off A2 (lo := 0) (hi := 791) (by decide +kernel) (by omega) (by omega)) R.2.2
  have hlc : Nat.ble 204 hc.length = true := Nat.ble_eq_true_of_le (hh_ln ((e1.1.1 203).trans I.2.2.2))
  exact op_mkX m1 m2 LI I.1 e1.2.1 (fun X => ⟨xx0_keep A2 (by decide +kernel) (xx0_keep e1.1 (by decide +kernel) X.1), deep_keep A2 (by decide +kernel) (deep_keep e1.1 (by decide +kernel) X.2.1), se_eq I.1 (li_len I) hlc X.2.1 I.2.1 e1.1 (by decide +kernel) A2 (by decide +kernel) f1 f2⟩)
set_option maxRecDepth 100000 in
/-- book -/
theorem op_book (l : Launch) (b : Nat) (en ac : Nat → Nat) (D : va_G) {hp : List AE} (I : LInv hp) (z1 : Int32) : OpR l b en ac D 7 181 [.int z1] hp := by
  by_cases h1 : z1.toInt < 0
  · have a1 := i32_lo z1
    obtain ⟨r, hc, m1, e1⟩ := sd_run sypc_2559 l b en ac D  (As := .ref 0 :: [.int z1]) (en_one (z := z1.toInt) (by omega) (by omega)) ⟨rfl, sv_i rfl, trivial⟩ (fun q hq => absurd hq List.not_mem_nil) I.1 (Nat.le_of_ble_eq_true rfl) (by decide +kernel)
    have I1 := li_quiet I e1.1 e1.2.1 (by decide +kernel)
    obtain ⟨r2, hd, m2, e2⟩ := sd_run sypc_2544 l b en ac D  (As := .ref 180 :: [.int z1]) (en_one (z := z1.toInt) (by omega) (by omega)) ⟨rfl, sv_i rfl, trivial⟩ (fun q hq => absurd hq List.not_mem_nil) I1.1 (Nat.le_of_ble_eq_true rfl) (by decide +kernel)
    exact op_mk m1 m2 (li_quiet I1 e2.1 e2.2.1 (by decide +kernel)) I.1 I1.1 e1.1 (by decide +kernel) e2.1 (by decide +kernel)
  · by_cases h2 : 1 < z1.toInt
    · have a1 := i32_hi z1
      obtain ⟨r, hc, m1, e1⟩ := sd_run sypc_2577 l b en ac D  (As := .ref 0 :: [.int z1]) (en_one (z := z1.toInt) (by omega) (by omega)) ⟨rfl, sv_i rfl, trivial⟩ (fun q hq => absurd hq List.not_mem_nil) I.1 (Nat.le_of_ble_eq_true rfl) (by decide +kernel)
      have I1 := li_quiet I e1.1 e1.2.1 (by decide +kernel)
      obtain ⟨r2, hd, m2, e2⟩ := sd_run sypc_2548 l b en ac D  (As := .ref 180 :: [.int z1]) (en_one (z := z1.toInt) (by omega) (by omega)) ⟨rfl, sv_i rfl, trivial⟩ (fun q hq => absurd hq List.not_mem_nil) I1.1 (Nat.le_of_ble_eq_true rfl) (by decide +kernel)
      exact op_mk m1 m2 (li_quiet I1 e2.1 e2.2.1 (by decide +kernel)) I.1 I1.1 e1.1 (by decide +kernel) e2.1 (by decide +kernel)
    · obtain ⟨r, hc, m1, e1, f1⟩ := sd_runF sypc_2576 l b en ac D  (As := .ref 0 :: [.int z1]) (en_one (z := z1.toInt) (by omega) (by omega)) ⟨rfl, sv_i rfl, trivial⟩ (fun q hq => absurd hq List.not_mem_nil) I.1 (Nat.le_of_ble_eq_true rfl) (by decide +kernel)
      obtain ⟨r2, hd, m2, e2, f2⟩ := sd_runF sypc_2546 l b en ac D  (As := .ref 180 :: [.int z1]) (en_one (z := z1.toInt) (by omega) (by omega)) ⟨rfl, sv_i rfl, trivial⟩ (fun q hq => absurd hq List.not_mem_nil) e1.2.1 (Nat.le_of_ble_eq_true rfl) (by decide +kernel)
      have hz1 : z1 = Int32.ofNat 0 ∨ z1 = Int32.ofNat 1 := by
        rcases (show z1.toInt = 0 ∨ z1.toInt = 1 by omega) with e | e
        · exact Or.inl (Int32.toInt_inj.mp e)
        · exact Or.inr (Int32.toInt_inj.mp e)
      have hlc : Nat.ble 204 hc.length = true := Nat.ble_eq_true_of_le (hh_ln ((e1.1.1 203).trans I.2.2.2))
      refine op_mkX m1 m2 (li_take I e1.1 (by decide +kernel) e2.1 e2.2.1 ?_ (by decide +kernel) (out0_ok (C := sypt_2576) (by decide +kernel) e1) (out0_ok (C := sypt_2546) (by decide +kernel) e2)) I.1 e1.2.1 (fun X => ⟨xx0_keep e2.1 (by decide +kernel) (xx0_keep e1.1 (by decide +kernel) X.1), deep_keep e2.1 (by decide +kernel) (deep_keep e1.1 (by decide +kernel) X.2.1), bflt I.1 (li_len I) hlc X.2.1 I.2.1 e1.1 (by decide +kernel) e2.1 (by decide +kernel) hz1 f1 f2⟩)
      exact fun R => rt_quiet e2.1 (by decide +kernel) R
