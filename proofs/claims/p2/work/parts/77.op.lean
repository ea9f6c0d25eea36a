/-! ===== each call, on both sides: duchy, sentence, image, restore ===== -/
set_option maxRecDepth 100000 in
/-- duchy -/
theorem op_duchy (l : Launch) (b : Nat) (en ac : Nat → Nat) (D : va_G) {hp : List AE} (I : LInv hp) : OpR l b en ac D 14 195 [] hp := by
  obtain ⟨r, hc, m1, e1⟩ := sd_run syc_3534 l b en ac D (ρ := 0 :: ([] : List Int32).map (fun z => z.toInt)) (As := .ref 0 :: []) (en_full []) ⟨rfl, trivial⟩ (fun q hq => absurd hq List.not_mem_nil) I.1 (Nat.le_of_ble_eq_true rfl) (by decide +kernel)
  obtain ⟨⟨q1, hd⟩, m2, ⟨r2, hr⟩, A2, G2, z2, R2⟩ := sd_runQ (du_run e1.2.1) l b en ac D (Nat.le_of_ble_eq_true rfl) (by decide +kernel)
  have hr : q1 = some (.int r2) := hr
  subst hr
  refine op_mk m1 m2 (li_take I e1.1 (by decide +kernel) A2 G2 (fun R => ⟨R2 R.1, ?_, ?_⟩) (by decide +kernel) (out0_ok (C := syt_3534) (by decide +kernel) e1) z2) I.1 e1.2.1
  · exact rr_cp (fun i a1 a2 => ag_off A2 (lo := 0) (hi := 791) (by decide +kernel) (by omega) (by omega)) R.2.1
  · exact rr_cp (fun i a1 a2 => ag_off A2 (lo := 0) (hi := 791) (by decide +kernel) (by omega) (by omega)) R.2.2
set_option maxRecDepth 100000 in
/-- sentence -/
theorem op_sentence (l : Launch) (b : Nat) (en ac : Nat → Nat) (D : va_G) {hp : List AE} (I : LInv hp) : OpR l b en ac D 38 273 [] hp := by
  obtain ⟨r, hc, m1, e1⟩ := sd_run syc_3719 l b en ac D (ρ := 0 :: ([] : List Int32).map (fun z => z.toInt)) (As := .ref 0 :: []) (en_full []) ⟨rfl, trivial⟩ (fun q hq => absurd hq List.not_mem_nil) I.1 (Nat.le_of_ble_eq_true rfl) (by decide +kernel)
  obtain ⟨⟨q1, hd⟩, m2, ⟨r2, hr⟩, A2, G2, z2, R2⟩ := sd_runQ (se_run e1.2.1) l b en ac D (Nat.le_of_ble_eq_true rfl) (by decide +kernel)
  have hr : q1 = some (.int r2) := hr
  subst hr
  refine op_mk m1 m2 (li_take I e1.1 (by decide +kernel) A2 G2 (fun R => ⟨R2 R.1, ?_, ?_⟩) (by decide +kernel) (out0_ok (C := syt_3719) (by decide +kernel) e1) z2) I.1 e1.2.1
  · exact rr_cp (fun i a1 a2 => ag_off A2 (lo := 0) (hi := 791) (by decide +kernel) (by omega) (by omega)) R.2.1
  · exact rr_cp (fun i a1 a2 => ag_off A2 (lo := 0) (hi := 791) (by decide +kernel) (by omega) (by omega)) R.2.2
set_option maxRecDepth 100000 in
/-- image -/
theorem op_image (l : Launch) (b : Nat) (en ac : Nat → Nat) (D : va_G) {hp : List AE} (I : LInv hp) (z1 : Int32) : OpR l b en ac D 25 212 [.int z1] hp := by
  obtain ⟨r, hc, m1, e1⟩ := sd_run syc_3818 l b en ac D (ρ := 0 :: ([z1] : List Int32).map (fun z => z.toInt)) (As := .ref 0 :: [.int z1]) (en_full [z1]) ⟨rfl, sv_i rfl, trivial⟩ (fun q hq => absurd hq List.not_mem_nil) I.1 (Nat.le_of_ble_eq_true rfl) (by decide +kernel)
  have I1 := li_quiet I e1.1 e1.2.1 (by decide +kernel)
  have a1 := i32_lo z1
  have a2 := i32_hi z1
  obtain ⟨zt, y1, y2⟩ := I1.2.1
  by_cases h1 : z1.toInt < 0
  · obtain ⟨r2, hd, m2, e2⟩ := sd_run syc_3878 l b en ac D (As := .ref 180 :: [.int z1]) (en_one (z := z1.toInt) (by omega) (by omega)) ⟨rfl, sv_i rfl, trivial⟩ (fun q hq => absurd hq List.not_mem_nil) I1.1 (Nat.le_of_ble_eq_true rfl) (by decide +kernel)
    exact op_mk m1 m2 (li_quiet I1 e2.1 e2.2.1 (by decide +kernel)) I.1 I1.1
  · by_cases h2 : 1 < z1.toInt
    · obtain ⟨r2, hd, m2, e2⟩ := sd_run syc_3879 l b en ac D (As := .ref 180 :: [.int z1]) (en_one (z := z1.toInt) (by omega) (by omega)) ⟨rfl, sv_i rfl, trivial⟩ (fun q hq => absurd hq List.not_mem_nil) I1.1 (Nat.le_of_ble_eq_true rfl) (by decide +kernel)
      exact op_mk m1 m2 (li_quiet I1 e2.1 e2.2.1 (by decide +kernel)) I.1 I1.1
    · by_cases h3 : z1.toInt = 0
      · have h4 : z1.toInt = ((0 : Nat) : Int) := by omega
        obtain ⟨⟨q1, hd⟩, m2, hr, A2, G2, cp⟩ := sd_runQ (im_run (k := 0) (by decide) I1.1 h4) l b en ac D (Nat.le_of_ble_eq_true rfl) (by decide +kernel)
        have hr : q1 = some (.int 1) := hr
        subst hr
        exact op_mk m1 m2 ⟨G2, ⟨zt, by rw [ag_off A2 (a := 1) (lo := 1) (hi := 1) (by decide +kernel) (Nat.le_refl 1) (Nat.le_refl 1)]; exact y1, by rw [ag_off A2 (a := 180) (lo := 2) (hi := 2) (by decide +kernel) (Nat.le_refl 2) (Nat.le_refl 2)]; exact y2⟩, ⟨(rr_cp (fun i a1 a2 => ag_off A2 (lo := 154) (hi := 395) (by decide +kernel) (by omega) (by omega)) I1.2.2.1.1), (rr_cp (o1 := 0) (fun i a1 a2 => cp i (by omega)) (rr_cp (fun i a1 a2 => ag_off A2 (lo := 154) (hi := 395) (by decide +kernel) (by omega) (by omega)) I1.2.2.1.1)), (rr_cp (fun i a1 a2 => ag_off A2 (lo := 396) (hi := 791) (by decide +kernel) (by omega) (by omega)) I1.2.2.1.2.2)⟩, by rw [A2.1]; exact I1.2.2.2⟩ I.1 I1.1
      · have h4 : z1.toInt = ((1 : Nat) : Int) := by omega
        obtain ⟨⟨q1, hd⟩, m2, hr, A2, G2, cp⟩ := sd_runQ (im_run (k := 1) (by decide) I1.1 h4) l b en ac D (Nat.le_of_ble_eq_true rfl) (by decide +kernel)
        have hr : q1 = some (.int 1) := hr
        subst hr
        exact op_mk m1 m2 ⟨G2, ⟨zt, by rw [ag_off A2 (a := 1) (lo := 1) (hi := 1) (by decide +kernel) (Nat.le_refl 1) (Nat.le_refl 1)]; exact y1, by rw [ag_off A2 (a := 180) (lo := 2) (hi := 2) (by decide +kernel) (Nat.le_refl 2) (Nat.le_refl 2)]; exact y2⟩, ⟨(rr_cp (fun i a1 a2 => ag_off A2 (lo := 154) (hi := 395) (by decide +kernel) (by omega) (by omega)) I1.2.2.1.1), (rr_cp (fun i a1 a2 => ag_off A2 (lo := 0) (hi := 395) (by decide +kernel) (by omega) (by omega)) I1.2.2.1.2.1), (rr_cp (o1 := 396) (fun i a1 a2 => cp i (by omega)) (rr_cp (fun i a1 a2 => ag_off A2 (lo := 154) (hi := 395) (by decide +kernel) (by omega) (by omega)) I1.2.2.1.1))⟩, by rw [A2.1]; exact I1.2.2.2⟩ I.1 I1.1
set_option maxRecDepth 100000 in
/-- restore -/
theorem op_restore (l : Launch) (b : Nat) (en ac : Nat → Nat) (D : va_G) {hp : List AE} (I : LInv hp) (z1 : Int32) : OpR l b en ac D 35 269 [.int z1] hp := by
  obtain ⟨r, hc, m1, e1⟩ := sd_run syc_3829 l b en ac D (ρ := 0 :: ([z1] : List Int32).map (fun z => z.toInt)) (As := .ref 0 :: [.int z1]) (en_full [z1]) ⟨rfl, sv_i rfl, trivial⟩ (fun q hq => absurd hq List.not_mem_nil) I.1 (Nat.le_of_ble_eq_true rfl) (by decide +kernel)
  have I1 := li_quiet I e1.1 e1.2.1 (by decide +kernel)
  have a1 := i32_lo z1
  have a2 := i32_hi z1
  obtain ⟨zt, y1, y2⟩ := I1.2.1
  by_cases h1 : z1.toInt < 0
  · obtain ⟨r2, hd, m2, e2⟩ := sd_run syc_3880 l b en ac D (As := .ref 180 :: [.int z1]) (en_one (z := z1.toInt) (by omega) (by omega)) ⟨rfl, sv_i rfl, trivial⟩ (fun q hq => absurd hq List.not_mem_nil) I1.1 (Nat.le_of_ble_eq_true rfl) (by decide +kernel)
    exact op_mk m1 m2 (li_quiet I1 e2.1 e2.2.1 (by decide +kernel)) I.1 I1.1
  · by_cases h2 : 1 < z1.toInt
    · obtain ⟨r2, hd, m2, e2⟩ := sd_run syc_3881 l b en ac D (As := .ref 180 :: [.int z1]) (en_one (z := z1.toInt) (by omega) (by omega)) ⟨rfl, sv_i rfl, trivial⟩ (fun q hq => absurd hq List.not_mem_nil) I1.1 (Nat.le_of_ble_eq_true rfl) (by decide +kernel)
      exact op_mk m1 m2 (li_quiet I1 e2.1 e2.2.1 (by decide +kernel)) I.1 I1.1
    · by_cases h3 : z1.toInt = 0
      · have h4 : z1.toInt = ((0 : Nat) : Int) := by omega
        obtain ⟨x, x1, x2⟩ := hp_kept I1.1 (k := 0) (by decide)
        rcases x2 with x2 | x2
        · obtain ⟨r2, hd, m2, e2⟩ := sd_run (r0_ok (k := 0) (by decide)) l b en ac D (ρ := [0]) (As := .ref 180 :: [.int z1]) (en_full []) ⟨rfl, ⟨z1, 0, rfl, rfl, by omega⟩, trivial⟩ (fun q hq => by rw [List.mem_singleton.mp hq]; exact ⟨.int x, x1, x, 0, rfl, rfl, by omega⟩) I1.1 (Nat.le_of_ble_eq_true rfl) (by decide +kernel)
          exact op_mk m1 m2 (li_quiet I1 e2.1 e2.2.1 (by decide +kernel)) I.1 I1.1
        · obtain ⟨⟨q1, hd⟩, m2, hr, A2, G2, cp⟩ := sd_runQ (re_run (k := 0) (by decide) I1.1 h4 x1 x2) l b en ac D (Nat.le_of_ble_eq_true rfl) (by decide +kernel)
          have hr : q1 = some (.int 1) := hr
          subst hr
          exact op_mk m1 m2 ⟨G2, ⟨zt, by rw [ag_off A2 (a := 1) (lo := 1) (hi := 1) (by decide +kernel) (Nat.le_refl 1) (Nat.le_refl 1)]; exact y1, by rw [ag_off A2 (a := 180) (lo := 2) (hi := 2) (by decide +kernel) (Nat.le_refl 2) (Nat.le_refl 2)]; exact y2⟩, ⟨(rr_cp (o0 := 0) (fun i a1 a2 => cp i (by omega)) (rr_cp (fun i a1 a2 => ag_off A2 (lo := 0) (hi := 395) (by decide +kernel) (by omega) (by omega)) I1.2.2.1.2.1)), (rr_cp (fun i a1 a2 => ag_off A2 (lo := 0) (hi := 395) (by decide +kernel) (by omega) (by omega)) I1.2.2.1.2.1), (rr_cp (fun i a1 a2 => ag_off A2 (lo := 396) (hi := 791) (by decide +kernel) (by omega) (by omega)) I1.2.2.1.2.2)⟩, by rw [A2.1]; exact I1.2.2.2⟩ I.1 I1.1
      · have h4 : z1.toInt = ((1 : Nat) : Int) := by omega
        obtain ⟨x, x1, x2⟩ := hp_kept I1.1 (k := 1) (by decide)
        rcases x2 with x2 | x2
        · obtain ⟨r2, hd, m2, e2⟩ := sd_run (r0_ok (k := 1) (by decide)) l b en ac D (ρ := [0]) (As := .ref 180 :: [.int z1]) (en_full []) ⟨rfl, ⟨z1, 0, rfl, rfl, by omega⟩, trivial⟩ (fun q hq => by rw [List.mem_singleton.mp hq]; exact ⟨.int x, x1, x, 0, rfl, rfl, by omega⟩) I1.1 (Nat.le_of_ble_eq_true rfl) (by decide +kernel)
          exact op_mk m1 m2 (li_quiet I1 e2.1 e2.2.1 (by decide +kernel)) I.1 I1.1
        · obtain ⟨⟨q1, hd⟩, m2, hr, A2, G2, cp⟩ := sd_runQ (re_run (k := 1) (by decide) I1.1 h4 x1 x2) l b en ac D (Nat.le_of_ble_eq_true rfl) (by decide +kernel)
          have hr : q1 = some (.int 1) := hr
          subst hr
          exact op_mk m1 m2 ⟨G2, ⟨zt, by rw [ag_off A2 (a := 1) (lo := 1) (hi := 1) (by decide +kernel) (Nat.le_refl 1) (Nat.le_refl 1)]; exact y1, by rw [ag_off A2 (a := 180) (lo := 2) (hi := 2) (by decide +kernel) (Nat.le_refl 2) (Nat.le_refl 2)]; exact y2⟩, ⟨(rr_cp (o0 := 396) (fun i a1 a2 => cp i (by omega)) (rr_cp (fun i a1 a2 => ag_off A2 (lo := 396) (hi := 791) (by decide +kernel) (by omega) (by omega)) I1.2.2.1.2.2)), (rr_cp (fun i a1 a2 => ag_off A2 (lo := 0) (hi := 395) (by decide +kernel) (by omega) (by omega)) I1.2.2.1.2.1), (rr_cp (fun i a1 a2 => ag_off A2 (lo := 396) (hi := 791) (by decide +kernel) (by omega) (by omega)) I1.2.2.1.2.2)⟩, by rw [A2.1]; exact I1.2.2.2⟩ I.1 I1.1
