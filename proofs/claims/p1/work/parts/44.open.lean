/-! ===== image, days, feed ===== -/
set_option maxRecDepth 100000 in
theorem op_image_0 (l : Launch) (b : Nat) (en ac : Nat → Nat) (D : va_G)  : ∃ (r : Int32) (hc hd : List AE) (fs : List Value), ev_M l b en ac D MM 9 24 [.ref 0, .int 0] ev_hB (some (.int r), hc) ∧ ev_M l b en ac D MM 9 121 [.ref 180, .int 0] hc (some (.int r), hd) ∧ hc[180]? = some (.inr (11, fs)) := by
  exact ⟨1, hc_image_0, hm_image_0, _, ev_ok l b en ac D MM_val 9 _ _ _ _ (ev_is_ok ox_image_0), cm_image_0 l b en ac D 7, rfl⟩
set_option maxRecDepth 100000 in
theorem op_image_1 (l : Launch) (b : Nat) (en ac : Nat → Nat) (D : va_G)  : ∃ (r : Int32) (hc hd : List AE) (fs : List Value), ev_M l b en ac D MM 9 24 [.ref 0, .int 1] ev_hB (some (.int r), hc) ∧ ev_M l b en ac D MM 9 121 [.ref 180, .int 1] hc (some (.int r), hd) ∧ hc[180]? = some (.inr (11, fs)) := by
  exact ⟨1, hc_image_1, hm_image_1, _, ev_ok l b en ac D MM_val 9 _ _ _ _ (ev_is_ok ox_image_1), cm_image_1 l b en ac D 7, rfl⟩
set_option maxRecDepth 100000 in
theorem op_days_in (l : Launch) (b : Nat) (en ac : Nat → Nat) (D : va_G) (z : Int32) (h1 : ¬ z < 1) (h2 : ¬ (60 : Int32) < z) : ∃ (r : Int32) (hc hd : List AE) (fs : List Value), ev_M l b en ac D MM 9 9 [.ref 0, .int z] ev_hB (some (.int r), hc) ∧ ev_M l b en ac D MM 9 104 [.ref 180, .int z] hc (some (.int r), hd) ∧ hc[180]? = some (.inr (11, fs)) := by
  have e1 : (1 : Int32).toInt = 1 := by decide +kernel
  have e2 : (60 : Int32).toInt = 60 := by decide +kernel
  have e0 : (0 : Int32).toInt = 0 := by decide +kernel
  have q1 : 1 ≤ z.toInt := by
    have h := Int32.le_iff_toInt_le.mp (Int32.not_lt.mp h1)
    omega
  have q2 : z.toInt ≤ 60 := by
    have h := Int32.le_iff_toInt_le.mp (Int32.not_lt.mp h2)
    omega
  have hz : Int32.ofNat z.toNatClampNeg = z := Int32.ofNat_toNatClampNeg z (Int32.le_iff_toInt_le.mpr (by omega))
  have hk : z.toNatClampNeg = z.toInt.toNat := rfl
  rw [← hz]
  exact ⟨_, _, _, _, cx_days l b en ac D z.toNatClampNeg (by omega) (by omega), cm_days l b en ac D z.toNatClampNeg (by omega) (by omega), rfl⟩
set_option maxRecDepth 100000 in
theorem op_feed (l : Launch) (b : Nat) (en ac : Nat → Nat) (D : va_G) (z z2 z3 z4 z5 : Int32) : ∃ (r : Int32) (hc hd : List AE) (fs : List Value), ev_M l b en ac D MM 9 17 [.ref 0, .int z, .int z2, .int z3, .int z4, .int z5] ev_hB (some (.int r), hc) ∧ ev_M l b en ac D MM 9 112 [.ref 180, .int z, .int z2, .int z3, .int z4, .int z5] hc (some (.int r), hd) ∧ hc[180]? = some (.inr (11, fs)) := by
  exact ⟨_, _, _, _, cx_feed l b en ac D z z2 z3 z4 z5, cm_feed l b en ac D _ z z2 z3 z4 z5, rfl⟩
