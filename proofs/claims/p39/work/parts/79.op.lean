/-! ===== image, restore: the same answers ===== -/
set_option maxRecDepth 100000 in
/-- image -/
theorem op_image (l : Launch) (b : Nat) (en ac : Nat → Nat) (D : va_G) {hp : List AE} (I : LInv hp) (X : XX hp) (z1 : Int32) : OpE l b en ac D 25 212 [.int z1] hp := by
  have a1 := i32_lo z1
  have a2 := i32_hi z1
  by_cases h1 : z1.toInt < 0
  · obtain ⟨r, hc, m1, e1⟩ := sd_run sypc_2593 l b en ac D (As := .ref 0 :: [.int z1]) (en_one (z := z1.toInt) (by omega) (by omega)) ⟨rfl, sv_i rfl, trivial⟩ (fun q hq => absurd hq List.not_mem_nil) I.1 (Nat.le_of_ble_eq_true rfl) (by decide +kernel)
    have I1 := li_quiet I e1.1 e1.2.1 (by decide +kernel)
    obtain ⟨r2, hd, m2, e2⟩ := sd_run sypc_2585 l b en ac D (As := .ref 180 :: [.int z1]) (en_one (z := z1.toInt) (by omega) (by omega)) ⟨rfl, sv_i rfl, trivial⟩ (fun q hq => absurd hq List.not_mem_nil) I1.1 (Nat.le_of_ble_eq_true rfl) (by decide +kernel)
    exact op_mkE m1 m2 ((end_k (v := 0) (by decide +kernel) e2).trans (end_k (v := 0) (by decide +kernel) e1).symm) (li_quiet I1 e2.1 e2.2.1 (by decide +kernel)) I.1 I1.1 (xx_two e1.1 (by decide +kernel) e2.1 (by decide +kernel))
  · by_cases h2 : 1 < z1.toInt
    · obtain ⟨r, hc, m1, e1⟩ := sd_run sypc_2594 l b en ac D (As := .ref 0 :: [.int z1]) (en_one (z := z1.toInt) (by omega) (by omega)) ⟨rfl, sv_i rfl, trivial⟩ (fun q hq => absurd hq List.not_mem_nil) I.1 (Nat.le_of_ble_eq_true rfl) (by decide +kernel)
      have I1 := li_quiet I e1.1 e1.2.1 (by decide +kernel)
      obtain ⟨r2, hd, m2, e2⟩ := sd_run sypc_2586 l b en ac D (As := .ref 180 :: [.int z1]) (en_one (z := z1.toInt) (by omega) (by omega)) ⟨rfl, sv_i rfl, trivial⟩ (fun q hq => absurd hq List.not_mem_nil) I1.1 (Nat.le_of_ble_eq_true rfl) (by decide +kernel)
      exact op_mkE m1 m2 ((end_k (v := 0) (by decide +kernel) e2).trans (end_k (v := 0) (by decide +kernel) e1).symm) (li_quiet I1 e2.1 e2.2.1 (by decide +kernel)) I.1 I1.1 (xx_two e1.1 (by decide +kernel) e2.1 (by decide +kernel))
    · by_cases h3 : z1.toInt = 0
      · have h4 : z1.toInt = ((0 : Nat) : Int) := by omega
        obtain ⟨r, hc, m1, e1⟩ := sd_run sypc_2601 l b en ac D (ρ := [0]) (As := .ref 0 :: [.int z1]) (en_full []) ⟨rfl, ⟨z1, 0, rfl, rfl, by omega⟩, trivial⟩ (fun q hq => absurd hq List.not_mem_nil) I.1 (Nat.le_of_ble_eq_true rfl) (by decide +kernel)
        have I1 := li_quiet I e1.1 e1.2.1 (by decide +kernel)
        obtain ⟨zt, y1, y2⟩ := I1.2.1
        obtain ⟨x, x1, x2⟩ := outV_ok (a := 132) (i := 0) (v := 1) (by decide +kernel) e1
        have x3 : x = 1 := Int32.toInt_inj.mp (x2.trans (show (1 : Int) = (1 : Int32).toInt from rfl))
        subst x3
        have x1 : hq hc 132 0 = some (.int 1) := x1
        obtain ⟨⟨q1, hd⟩, m2, hr, A2, G2, cp, kp⟩ := sd_runQ (im_run (k := 0) (by decide) I1.1 h4) l b en ac D (Nat.le_of_ble_eq_true rfl) (by decide +kernel)
        have hr : q1 = some (.int 1) := hr
        subst hr
        have X2 : XX hp → XX hd := fun X => by
          obtain ⟨⟨w0, p0, q0⟩, w1, p1, q1⟩ := X
          exact ⟨⟨1, by rw [ag_off A2 (a := 132) (lo := 0) (hi := 0) (by decide +kernel) (Nat.le_of_ble_eq_true rfl : 0 ≤ 0) (Nat.le_of_ble_eq_true rfl : 0 ≤ 0)]; exact x1, kp⟩, ⟨w1, by rw [ag_off A2 (a := 156) (lo := 0) (hi := 0) (by decide +kernel) (Nat.le_of_ble_eq_true rfl : 0 ≤ 0) (Nat.le_of_ble_eq_true rfl : 0 ≤ 0), ag_off e1.1 (a := 156) (lo := 0) (hi := 0) (by decide +kernel) (Nat.le_of_ble_eq_true rfl : 0 ≤ 0) (Nat.le_of_ble_eq_true rfl : 0 ≤ 0)]; exact p1, by rw [ag_off A2 (a := 190) (lo := 1) (hi := 1) (by decide +kernel) (Nat.le_of_ble_eq_true rfl : 1 ≤ 1) (Nat.le_of_ble_eq_true rfl : 1 ≤ 1), ag_off e1.1 (a := 190) (lo := 1) (hi := 1) (by decide +kernel) (Nat.le_of_ble_eq_true rfl : 1 ≤ 1) (Nat.le_of_ble_eq_true rfl : 1 ≤ 1)]; exact q1⟩⟩
        exact op_mkE (r2 := 1) m1 m2 ((show (1 : Int32).toInt = 1 from rfl).trans (end_k (v := 1) (by decide +kernel) e1).symm) ⟨G2, ⟨zt, by rw [ag_off A2 (a := 1) (lo := 1) (hi := 1) (by decide +kernel) (Nat.le_refl 1) (Nat.le_refl 1)]; exact y1, by rw [ag_off A2 (a := 180) (lo := 2) (hi := 2) (by decide +kernel) (Nat.le_refl 2) (Nat.le_refl 2)]; exact y2⟩, ⟨(rr_cp (fun i a1 a2 => ag_off A2 (lo := 154) (hi := 395) (by decide +kernel) (by omega) (by omega)) I1.2.2.1.1), (rr_cp (o1 := 0) (fun i a1 a2 => cp i (by omega)) (rr_cp (fun i a1 a2 => ag_off A2 (lo := 154) (hi := 395) (by decide +kernel) (by omega) (by omega)) I1.2.2.1.1)), (rr_cp (fun i a1 a2 => ag_off A2 (lo := 396) (hi := 791) (by decide +kernel) (by omega) (by omega)) I1.2.2.1.2.2)⟩, by rw [A2.1]; exact I1.2.2.2⟩ I.1 I1.1 X2
      · have h4 : z1.toInt = ((1 : Nat) : Int) := by omega
        obtain ⟨r, hc, m1, e1⟩ := sd_run sypc_2608 l b en ac D (ρ := [0]) (As := .ref 0 :: [.int z1]) (en_full []) ⟨rfl, ⟨z1, 0, rfl, rfl, by omega⟩, trivial⟩ (fun q hq => absurd hq List.not_mem_nil) I.1 (Nat.le_of_ble_eq_true rfl) (by decide +kernel)
        have I1 := li_quiet I e1.1 e1.2.1 (by decide +kernel)
        obtain ⟨zt, y1, y2⟩ := I1.2.1
        obtain ⟨x, x1, x2⟩ := outV_ok (a := 156) (i := 0) (v := 1) (by decide +kernel) e1
        have x3 : x = 1 := Int32.toInt_inj.mp (x2.trans (show (1 : Int) = (1 : Int32).toInt from rfl))
        subst x3
        have x1 : hq hc 156 0 = some (.int 1) := x1
        obtain ⟨⟨q1, hd⟩, m2, hr, A2, G2, cp, kp⟩ := sd_runQ (im_run (k := 1) (by decide) I1.1 h4) l b en ac D (Nat.le_of_ble_eq_true rfl) (by decide +kernel)
        have hr : q1 = some (.int 1) := hr
        subst hr
        have X2 : XX hp → XX hd := fun X => by
          obtain ⟨⟨w0, p0, q0⟩, w1, p1, q1⟩ := X
          exact ⟨⟨w0, by rw [ag_off A2 (a := 132) (lo := 0) (hi := 0) (by decide +kernel) (Nat.le_of_ble_eq_true rfl : 0 ≤ 0) (Nat.le_of_ble_eq_true rfl : 0 ≤ 0), ag_off e1.1 (a := 132) (lo := 0) (hi := 0) (by decide +kernel) (Nat.le_of_ble_eq_true rfl : 0 ≤ 0) (Nat.le_of_ble_eq_true rfl : 0 ≤ 0)]; exact p0, by rw [ag_off A2 (a := 190) (lo := 0) (hi := 0) (by decide +kernel) (Nat.le_of_ble_eq_true rfl : 0 ≤ 0) (Nat.le_of_ble_eq_true rfl : 0 ≤ 0), ag_off e1.1 (a := 190) (lo := 0) (hi := 0) (by decide +kernel) (Nat.le_of_ble_eq_true rfl : 0 ≤ 0) (Nat.le_of_ble_eq_true rfl : 0 ≤ 0)]; exact q0⟩, ⟨1, by rw [ag_off A2 (a := 156) (lo := 0) (hi := 0) (by decide +kernel) (Nat.le_of_ble_eq_true rfl : 0 ≤ 0) (Nat.le_of_ble_eq_true rfl : 0 ≤ 0)]; exact x1, kp⟩⟩
        exact op_mkE (r2 := 1) m1 m2 ((show (1 : Int32).toInt = 1 from rfl).trans (end_k (v := 1) (by decide +kernel) e1).symm) ⟨G2, ⟨zt, by rw [ag_off A2 (a := 1) (lo := 1) (hi := 1) (by decide +kernel) (Nat.le_refl 1) (Nat.le_refl 1)]; exact y1, by rw [ag_off A2 (a := 180) (lo := 2) (hi := 2) (by decide +kernel) (Nat.le_refl 2) (Nat.le_refl 2)]; exact y2⟩, ⟨(rr_cp (fun i a1 a2 => ag_off A2 (lo := 154) (hi := 395) (by decide +kernel) (by omega) (by omega)) I1.2.2.1.1), (rr_cp (fun i a1 a2 => ag_off A2 (lo := 0) (hi := 395) (by decide +kernel) (by omega) (by omega)) I1.2.2.1.2.1), (rr_cp (o1 := 396) (fun i a1 a2 => cp i (by omega)) (rr_cp (fun i a1 a2 => ag_off A2 (lo := 154) (hi := 395) (by decide +kernel) (by omega) (by omega)) I1.2.2.1.1))⟩, by rw [A2.1]; exact I1.2.2.2⟩ I.1 I1.1 X2
set_option maxRecDepth 100000 in
/-- restore -/
theorem op_restore (l : Launch) (b : Nat) (en ac : Nat → Nat) (D : va_G) {hp : List AE} (I : LInv hp) (X : XX hp) (z1 : Int32) : OpE l b en ac D 35 269 [.int z1] hp := by
  have a1 := i32_lo z1
  have a2 := i32_hi z1
  by_cases h1 : z1.toInt < 0
  · obtain ⟨r, hc, m1, e1⟩ := sd_run sypc_2595 l b en ac D (As := .ref 0 :: [.int z1]) (en_one (z := z1.toInt) (by omega) (by omega)) ⟨rfl, sv_i rfl, trivial⟩ (fun q hq => absurd hq List.not_mem_nil) I.1 (Nat.le_of_ble_eq_true rfl) (by decide +kernel)
    have I1 := li_quiet I e1.1 e1.2.1 (by decide +kernel)
    obtain ⟨r2, hd, m2, e2⟩ := sd_run sypc_2587 l b en ac D (As := .ref 180 :: [.int z1]) (en_one (z := z1.toInt) (by omega) (by omega)) ⟨rfl, sv_i rfl, trivial⟩ (fun q hq => absurd hq List.not_mem_nil) I1.1 (Nat.le_of_ble_eq_true rfl) (by decide +kernel)
    exact op_mkE m1 m2 ((end_k (v := 0) (by decide +kernel) e2).trans (end_k (v := 0) (by decide +kernel) e1).symm) (li_quiet I1 e2.1 e2.2.1 (by decide +kernel)) I.1 I1.1 (xx_two e1.1 (by decide +kernel) e2.1 (by decide +kernel))
  · by_cases h2 : 1 < z1.toInt
    · obtain ⟨r, hc, m1, e1⟩ := sd_run sypc_2596 l b en ac D (As := .ref 0 :: [.int z1]) (en_one (z := z1.toInt) (by omega) (by omega)) ⟨rfl, sv_i rfl, trivial⟩ (fun q hq => absurd hq List.not_mem_nil) I.1 (Nat.le_of_ble_eq_true rfl) (by decide +kernel)
      have I1 := li_quiet I e1.1 e1.2.1 (by decide +kernel)
      obtain ⟨r2, hd, m2, e2⟩ := sd_run sypc_2588 l b en ac D (As := .ref 180 :: [.int z1]) (en_one (z := z1.toInt) (by omega) (by omega)) ⟨rfl, sv_i rfl, trivial⟩ (fun q hq => absurd hq List.not_mem_nil) I1.1 (Nat.le_of_ble_eq_true rfl) (by decide +kernel)
      exact op_mkE m1 m2 ((end_k (v := 0) (by decide +kernel) e2).trans (end_k (v := 0) (by decide +kernel) e1).symm) (li_quiet I1 e2.1 e2.2.1 (by decide +kernel)) I.1 I1.1 (xx_two e1.1 (by decide +kernel) e2.1 (by decide +kernel))
    · by_cases h3 : z1.toInt = 0
      · have h4 : z1.toInt = ((0 : Nat) : Int) := by omega
        obtain ⟨x, x0, x1⟩ := X.1
        obtain ⟨xx, w1, w2⟩ := hp_kept I.1 (k := 0) (by decide)
        rw [x1] at w1
        cases w1
        rcases w2 with w2 | w2
        · obtain ⟨r, hc, m1, e1⟩ := sd_run sypc_2602 l b en ac D (ρ := [0]) (As := .ref 0 :: [.int z1]) (en_full []) ⟨rfl, ⟨z1, 0, rfl, rfl, by omega⟩, trivial⟩ (fun q hq => by rw [List.mem_singleton.mp hq]; exact ⟨.int x, x0, x, 0, rfl, rfl, by omega⟩) I.1 (Nat.le_of_ble_eq_true rfl) (by decide +kernel)
          have I1 := li_quiet I e1.1 e1.2.1 (by decide +kernel)
          have x3 : hq hc 190 0 = some (.int x) := by rw [ag_off e1.1 (a := 190) (lo := 0) (hi := 0) (by decide +kernel) (Nat.le_of_ble_eq_true rfl : 0 ≤ 0) (Nat.le_of_ble_eq_true rfl : 0 ≤ 0)]; exact x1
          obtain ⟨r2, hd, m2, e2⟩ := sd_run (r0_ok (k := 0) (by decide)) l b en ac D (ρ := [0]) (As := .ref 180 :: [.int z1]) (en_full []) ⟨rfl, ⟨z1, 0, rfl, rfl, by omega⟩, trivial⟩ (fun q hq => by rw [List.mem_singleton.mp hq]; exact ⟨.int x, x3, x, 0, rfl, rfl, by omega⟩) I1.1 (Nat.le_of_ble_eq_true rfl) (by decide +kernel)
          exact op_mkE m1 m2 ((end_k (v := 0) (by decide +kernel) e2).trans (end_k (v := 0) (by decide +kernel) e1).symm) (li_quiet I1 e2.1 e2.2.1 (by decide +kernel)) I.1 I1.1 (xx_two e1.1 (by decide +kernel) e2.1 (by decide +kernel))
        · obtain ⟨r, hc, m1, e1⟩ := sd_run sypc_2603 l b en ac D (ρ := [0]) (As := .ref 0 :: [.int z1]) (en_full []) ⟨rfl, ⟨z1, 0, rfl, rfl, by omega⟩, trivial⟩ (fun q hq => by rw [List.mem_singleton.mp hq]; exact ⟨.int x, x0, x, 0, rfl, rfl, by omega⟩) I.1 (Nat.le_of_ble_eq_true rfl) (by decide +kernel)
          have I1 := li_quiet I e1.1 e1.2.1 (by decide +kernel)
          obtain ⟨zt, y1, y2⟩ := I1.2.1
          have x3 : hq hc 190 0 = some (.int x) := by rw [ag_off e1.1 (a := 190) (lo := 0) (hi := 0) (by decide +kernel) (Nat.le_of_ble_eq_true rfl : 0 ≤ 0) (Nat.le_of_ble_eq_true rfl : 0 ≤ 0)]; exact x1
          obtain ⟨⟨q1, hd⟩, m2, hr, A2, G2, cp⟩ := sd_runQ (re_run (k := 0) (by decide) I1.1 h4 x3 w2) l b en ac D (Nat.le_of_ble_eq_true rfl) (by decide +kernel)
          have hr : q1 = some (.int 1) := hr
          subst hr
          exact op_mkE (r2 := 1) m1 m2 ((show (1 : Int32).toInt = 1 from rfl).trans (end_k (v := 1) (by decide +kernel) e1).symm) ⟨G2, ⟨zt, by rw [ag_off A2 (a := 1) (lo := 1) (hi := 1) (by decide +kernel) (Nat.le_refl 1) (Nat.le_refl 1)]; exact y1, by rw [ag_off A2 (a := 180) (lo := 2) (hi := 2) (by decide +kernel) (Nat.le_refl 2) (Nat.le_refl 2)]; exact y2⟩, ⟨(rr_cp (o0 := 0) (fun i a1 a2 => cp i (by omega)) (rr_cp (fun i a1 a2 => ag_off A2 (lo := 0) (hi := 395) (by decide +kernel) (by omega) (by omega)) I1.2.2.1.2.1)), (rr_cp (fun i a1 a2 => ag_off A2 (lo := 0) (hi := 395) (by decide +kernel) (by omega) (by omega)) I1.2.2.1.2.1), (rr_cp (fun i a1 a2 => ag_off A2 (lo := 396) (hi := 791) (by decide +kernel) (by omega) (by omega)) I1.2.2.1.2.2)⟩, by rw [A2.1]; exact I1.2.2.2⟩ I.1 I1.1 (xx_two e1.1 (by decide +kernel) A2 (by decide +kernel))
      · have h4 : z1.toInt = ((1 : Nat) : Int) := by omega
        obtain ⟨x, x0, x1⟩ := X.2
        obtain ⟨xx, w1, w2⟩ := hp_kept I.1 (k := 1) (by decide)
        rw [x1] at w1
        cases w1
        rcases w2 with w2 | w2
        · obtain ⟨r, hc, m1, e1⟩ := sd_run sypc_2609 l b en ac D (ρ := [0]) (As := .ref 0 :: [.int z1]) (en_full []) ⟨rfl, ⟨z1, 0, rfl, rfl, by omega⟩, trivial⟩ (fun q hq => by rw [List.mem_singleton.mp hq]; exact ⟨.int x, x0, x, 0, rfl, rfl, by omega⟩) I.1 (Nat.le_of_ble_eq_true rfl) (by decide +kernel)
          have I1 := li_quiet I e1.1 e1.2.1 (by decide +kernel)
          have x3 : hq hc 190 1 = some (.int x) := by rw [ag_off e1.1 (a := 190) (lo := 1) (hi := 1) (by decide +kernel) (Nat.le_of_ble_eq_true rfl : 1 ≤ 1) (Nat.le_of_ble_eq_true rfl : 1 ≤ 1)]; exact x1
          obtain ⟨r2, hd, m2, e2⟩ := sd_run (r0_ok (k := 1) (by decide)) l b en ac D (ρ := [0]) (As := .ref 180 :: [.int z1]) (en_full []) ⟨rfl, ⟨z1, 0, rfl, rfl, by omega⟩, trivial⟩ (fun q hq => by rw [List.mem_singleton.mp hq]; exact ⟨.int x, x3, x, 0, rfl, rfl, by omega⟩) I1.1 (Nat.le_of_ble_eq_true rfl) (by decide +kernel)
          exact op_mkE m1 m2 ((end_k (v := 0) (by decide +kernel) e2).trans (end_k (v := 0) (by decide +kernel) e1).symm) (li_quiet I1 e2.1 e2.2.1 (by decide +kernel)) I.1 I1.1 (xx_two e1.1 (by decide +kernel) e2.1 (by decide +kernel))
        · obtain ⟨r, hc, m1, e1⟩ := sd_run sypc_2610 l b en ac D (ρ := [0]) (As := .ref 0 :: [.int z1]) (en_full []) ⟨rfl, ⟨z1, 0, rfl, rfl, by omega⟩, trivial⟩ (fun q hq => by rw [List.mem_singleton.mp hq]; exact ⟨.int x, x0, x, 0, rfl, rfl, by omega⟩) I.1 (Nat.le_of_ble_eq_true rfl) (by decide +kernel)
          have I1 := li_quiet I e1.1 e1.2.1 (by decide +kernel)
          obtain ⟨zt, y1, y2⟩ := I1.2.1
          have x3 : hq hc 190 1 = some (.int x) := by rw [ag_off e1.1 (a := 190) (lo := 1) (hi := 1) (by decide +kernel) (Nat.le_of_ble_eq_true rfl : 1 ≤ 1) (Nat.le_of_ble_eq_true rfl : 1 ≤ 1)]; exact x1
          obtain ⟨⟨q1, hd⟩, m2, hr, A2, G2, cp⟩ := sd_runQ (re_run (k := 1) (by decide) I1.1 h4 x3 w2) l b en ac D (Nat.le_of_ble_eq_true rfl) (by decide +kernel)
          have hr : q1 = some (.int 1) := hr
          subst hr
          exact op_mkE (r2 := 1) m1 m2 ((show (1 : Int32).toInt = 1 from rfl).trans (end_k (v := 1) (by decide +kernel) e1).symm) ⟨G2, ⟨zt, by rw [ag_off A2 (a := 1) (lo := 1) (hi := 1) (by decide +kernel) (Nat.le_refl 1) (Nat.le_refl 1)]; exact y1, by rw [ag_off A2 (a := 180) (lo := 2) (hi := 2) (by decide +kernel) (Nat.le_refl 2) (Nat.le_refl 2)]; exact y2⟩, ⟨(rr_cp (o0 := 396) (fun i a1 a2 => cp i (by omega)) (rr_cp (fun i a1 a2 => ag_off A2 (lo := 396) (hi := 791) (by decide +kernel) (by omega) (by omega)) I1.2.2.1.2.2)), (rr_cp (fun i a1 a2 => ag_off A2 (lo := 0) (hi := 395) (by decide +kernel) (by omega) (by omega)) I1.2.2.1.2.1), (rr_cp (fun i a1 a2 => ag_off A2 (lo := 396) (hi := 791) (by decide +kernel) (by omega) (by omega)) I1.2.2.1.2.2)⟩, by rw [A2.1]; exact I1.2.2.2⟩ I.1 I1.1 (xx_two e1.1 (by decide +kernel) A2 (by decide +kernel))
