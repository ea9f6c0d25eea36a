/-! ===== said ===== -/
def saB (T : Nat) (C : CO) : Bool := Nat.beq (cMi C) 271 && Nat.ble (cDep C) 100 && outI C && quW (cW C) && decide (cE C = [(0, 0, 0, 0, 0, 0), (-2147483648, 2147483647, 0, -2147483648, 0, 2147483647)]) && decide (cA C = [(2, 180, 0), (0, 1, 0)]) && decide (cP C = [(182, 154, (0, 0, 1)), (182, 155, (0, 0, (T : Int)))]) && xxW (cW C)
set_option maxRecDepth 100000 in
theorem hs_all : ∀ T : Nat, T < 60 → ∃ C : CO, CoOk (GK T) MM C ∧ saB T C = true := by
  intro T hT
  match T, hT with
  | 0, _ => exact ⟨syt_said_0, hs_0, by decide +kernel⟩
  | 1, _ => exact ⟨syt_said_1, hs_1, by decide +kernel⟩
  | 2, _ => exact ⟨syt_said_2, hs_2, by decide +kernel⟩
  | 3, _ => exact ⟨syt_said_3, hs_3, by decide +kernel⟩
  | 4, _ => exact ⟨syt_said_4, hs_4, by decide +kernel⟩
  | 5, _ => exact ⟨syt_said_5, hs_5, by decide +kernel⟩
  | 6, _ => exact ⟨syt_said_6, hs_6, by decide +kernel⟩
  | 7, _ => exact ⟨syt_said_7, hs_7, by decide +kernel⟩
  | 8, _ => exact ⟨syt_said_8, hs_8, by decide +kernel⟩
  | 9, _ => exact ⟨syt_said_9, hs_9, by decide +kernel⟩
  | 10, _ => exact ⟨syt_said_10, hs_10, by decide +kernel⟩
  | 11, _ => exact ⟨syt_said_11, hs_11, by decide +kernel⟩
  | 12, _ => exact ⟨syt_said_12, hs_12, by decide +kernel⟩
  | 13, _ => exact ⟨syt_said_13, hs_13, by decide +kernel⟩
  | 14, _ => exact ⟨syt_said_14, hs_14, by decide +kernel⟩
  | 15, _ => exact ⟨syt_said_15, hs_15, by decide +kernel⟩
  | 16, _ => exact ⟨syt_said_16, hs_16, by decide +kernel⟩
  | 17, _ => exact ⟨syt_said_17, hs_17, by decide +kernel⟩
  | 18, _ => exact ⟨syt_said_18, hs_18, by decide +kernel⟩
  | 19, _ => exact ⟨syt_said_19, hs_19, by decide +kernel⟩
  | 20, _ => exact ⟨syt_said_20, hs_20, by decide +kernel⟩
  | 21, _ => exact ⟨syt_said_21, hs_21, by decide +kernel⟩
  | 22, _ => exact ⟨syt_said_22, hs_22, by decide +kernel⟩
  | 23, _ => exact ⟨syt_said_23, hs_23, by decide +kernel⟩
  | 24, _ => exact ⟨syt_said_24, hs_24, by decide +kernel⟩
  | 25, _ => exact ⟨syt_said_25, hs_25, by decide +kernel⟩
  | 26, _ => exact ⟨syt_said_26, hs_26, by decide +kernel⟩
  | 27, _ => exact ⟨syt_said_27, hs_27, by decide +kernel⟩
  | 28, _ => exact ⟨syt_said_28, hs_28, by decide +kernel⟩
  | 29, _ => exact ⟨syt_said_29, hs_29, by decide +kernel⟩
  | 30, _ => exact ⟨syt_said_30, hs_30, by decide +kernel⟩
  | 31, _ => exact ⟨syt_said_31, hs_31, by decide +kernel⟩
  | 32, _ => exact ⟨syt_said_32, hs_32, by decide +kernel⟩
  | 33, _ => exact ⟨syt_said_33, hs_33, by decide +kernel⟩
  | 34, _ => exact ⟨syt_said_34, hs_34, by decide +kernel⟩
  | 35, _ => exact ⟨syt_said_35, hs_35, by decide +kernel⟩
  | 36, _ => exact ⟨syt_said_36, hs_36, by decide +kernel⟩
  | 37, _ => exact ⟨syt_said_37, hs_37, by decide +kernel⟩
  | 38, _ => exact ⟨syt_said_38, hs_38, by decide +kernel⟩
  | 39, _ => exact ⟨syt_said_39, hs_39, by decide +kernel⟩
  | 40, _ => exact ⟨syt_said_40, hs_40, by decide +kernel⟩
  | 41, _ => exact ⟨syt_said_41, hs_41, by decide +kernel⟩
  | 42, _ => exact ⟨syt_said_42, hs_42, by decide +kernel⟩
  | 43, _ => exact ⟨syt_said_43, hs_43, by decide +kernel⟩
  | 44, _ => exact ⟨syt_said_44, hs_44, by decide +kernel⟩
  | 45, _ => exact ⟨syt_said_45, hs_45, by decide +kernel⟩
  | 46, _ => exact ⟨syt_said_46, hs_46, by decide +kernel⟩
  | 47, _ => exact ⟨syt_said_47, hs_47, by decide +kernel⟩
  | 48, _ => exact ⟨syt_said_48, hs_48, by decide +kernel⟩
  | 49, _ => exact ⟨syt_said_49, hs_49, by decide +kernel⟩
  | 50, _ => exact ⟨syt_said_50, hs_50, by decide +kernel⟩
  | 51, _ => exact ⟨syt_said_51, hs_51, by decide +kernel⟩
  | 52, _ => exact ⟨syt_said_52, hs_52, by decide +kernel⟩
  | 53, _ => exact ⟨syt_said_53, hs_53, by decide +kernel⟩
  | 54, _ => exact ⟨syt_said_54, hs_54, by decide +kernel⟩
  | 55, _ => exact ⟨syt_said_55, hs_55, by decide +kernel⟩
  | 56, _ => exact ⟨syt_said_56, hs_56, by decide +kernel⟩
  | 57, _ => exact ⟨syt_said_57, hs_57, by decide +kernel⟩
  | 58, _ => exact ⟨syt_said_58, hs_58, by decide +kernel⟩
  | 59, _ => exact ⟨syt_said_59, hs_59, by decide +kernel⟩
  | n + 60, h => omega
set_option maxRecDepth 100000 in
/-- said -/
theorem op_said (l : Launch) (b : Nat) (en ac : Nat → Nat) (D : va_G) {hp : List AE} (I : LInv hp) (z1 : Int32) : OpR l b en ac D 37 271 [.int z1] hp := by
  obtain ⟨r, hc, m1, e1⟩ := sd_run sypc_2514 l b en ac D (ρ := 0 :: ([z1] : List Int32).map (fun z => z.toInt)) (As := .ref 0 :: [.int z1]) (en_full [z1]) ⟨rfl, sv_i rfl, trivial⟩ (fun q hq => absurd hq List.not_mem_nil) I.1 (Nat.le_of_ble_eq_true rfl) (by decide +kernel)
  have I1 := li_quiet I e1.1 e1.2.1 (by decide +kernel)
  obtain ⟨n, t, n1, n2, n3⟩ := I1.2.2.1.1
  rw [Nat.zero_add] at n1 n2
  rcases n3 with n3 | ⟨n3, n4⟩
  · obtain ⟨r2, hd, m2, e2⟩ := sd_run hsp_none l b en ac D (ρ := [0, z1.toInt]) (As := [.ref 180, .int z1]) (en_full [z1]) ⟨rfl, sv_i rfl, trivial⟩ (fun q hq => by rw [List.mem_singleton.mp hq]; exact ⟨.int n, n1, n, 0, rfl, rfl, by omega⟩) I1.1 (Nat.le_of_ble_eq_true rfl) (by decide +kernel)
    exact op_mk m1 m2 (li_quiet I1 e2.1 e2.2.1 (by decide +kernel)) I.1 I1.1 e1.1 (by decide +kernel) e2.1 (by decide +kernel)
  · obtain ⟨y, y1, y2, y3⟩ := hp_155 I1.1
    rw [n2] at y1
    cases y1
    obtain ⟨C, hC, hB⟩ := hs_all t.toInt.toNat (by omega)
    unfold saB at hB
    simp only [Bool.and_eq_true, decide_eq_true_eq] at hB
    obtain ⟨⟨⟨⟨⟨⟨⟨b1, b2⟩, b3⟩, b4⟩, b5⟩, b6⟩, b7⟩, b8⟩ := hB
    have b1 := Nat.eq_of_beq_eq_true b1
    obtain ⟨r2, hd, m2, e2⟩ := sd_run hC l b en ac D (ρ := [0, z1.toInt]) (As := [.ref 180, .int z1]) (by rw [b5]; exact en_full [z1]) (by rw [b6]; exact ⟨rfl, sv_i rfl, trivial⟩) (by
      rw [b7]
      intro q hq
      rcases List.mem_cons.mp hq with rfl | hq
      · exact ⟨.int n, n1, n, 0, rfl, rfl, by omega⟩
      · rw [List.mem_singleton.mp hq]
        exact ⟨.int t, n2, t, 0, rfl, rfl, by omega⟩) (gk_ok (t := t) I1.1 n1 n3 _ (by omega) (fun r hr => n4 r (by omega) (by omega))) (Nat.le_of_ble_eq_true b2) b3
    rw [b1] at m2
    exact op_mk m1 m2 (li_quiet I1 e2.1 (gk_to e2.2.1) b4) I.1 I1.1 e1.1 (by decide +kernel) e2.1 b8
