/-! ===== a ONE: readOne and readSaid, both at once ===== -/
theorem s_mk {B : Nat → Nat} {bs ts : List Int32} {n lim : Nat} {po : List Value} {k a kd pl w : Nat} {le : Int64} {nu tk td fp nuM sg plM : Int32} {wd : Int64} (hB : BY bs B) (hM : MY ts B) (hb : ∀ i, B i < 256) (hn : n ≤ 940) (hl : lim ≤ 940) (t : TF k n a kd w le nu nuM sg wd) {c sv : Nat} (hc : c < 256) (sv1 : sv < 256) (sv2 : kd = 3 → nu = Int32.ofNat sv) : ((Nat.beq kd 3 && Nat.beq sv c) = false → ∃ T M, FC n lim po T M ∧ XQt bs 4 167 [.ref 1, .int (Int32.ofNat c)] (tcl n lim a kd pl w le nu tk (Int32.ofNat 0) fp) (some (.int (Int32.ofNat 0))) T ∧ MQt ts 1 174 [.ref 180, .int (Int32.ofNat 1)] (mcl (Int32.ofNat 0) (Int32.ofNat 0) n lim a pl (km kd) nuM sg (Int32.ofNat 0) plM wd td po) (some (.int (Int32.ofNat 0))) M) ∧ ((Nat.beq kd 3 && Nat.beq sv c) = true → ∃ T M, TC n lim po (k + 1) tk td T M ∧ XQt bs 4 167 [.ref 1, .int (Int32.ofNat c)] (tcl n lim a kd pl w le nu tk (Int32.ofNat 0) fp) (some (.int (Int32.ofNat 1))) T ∧ MQt ts 2 205 [.ref 180] (mcl (Int32.ofNat 0) (Int32.ofNat 0) n lim a pl (km kd) nuM sg (Int32.ofNat 0) plM wd td po) none M) := by
  obtain ⟨-, e1, -, e4, -, e6⟩ := km_is kd t.2.2.2.1
  have hk : kd < 10 := by have := t.2.2.2.1; omega
  refine ⟨fun f => ?_, fun f => ?_⟩
  · refine ⟨_, _, ⟨a, kd, pl, w, le, nu, tk, 1, a, pl, km kd, nuM, sg, (if km kd = 1 then Int32.ofNat 1 else Int32.ofNat 1), Int32.ofNat pl, wd, td, rfl, rfl, ?_, rfl, by decide, by decide⟩, fun H hlen h1 h2 => x_takesMark_f hB hlen h1 h2 t.1 hn hl hk hc sv1 sv2 f, fun H hlen h1 h2 => m_bad hlen h1 e6⟩
    split <;> rfl
  · have f2 := f
    rw [Bool.and_eq_true] at f2
    have k3 : kd = 3 := Nat.eq_of_beq_eq_true f2.1
    exact ⟨_, _, tc_adv hb t (by omega) (by omega), fun H hlen h1 h2 => x_takesMark_t hB hlen h1 h2 t.1 hn hl hk hc sv1 sv2 f, fun H hlen h1 h2 => m_go hM hlen h1 h2 t.1 hn hl⟩
theorem sgn_of {k n a kd w : Nat} {le : Int64} {nu nm sg : Int32} {wd : Int64} (t : TF k n a kd w le nu nm sg wd) : ∃ sv : Nat, sv < 256 ∧ (kd = 3 → nu = Int32.ofNat sv) ∧ (km kd = 4 → sg = Int32.ofNat sv) ∧ ∀ c : Nat, (Nat.beq (km kd) 4 && Nat.beq sv c) = (Nat.beq kd 3 && Nat.beq sv c) := by
  obtain ⟨-, -, -, k4_, -, -⟩ := km_is kd t.2.2.2.1
  by_cases c3 : kd = 3
  · obtain ⟨c, c1, c2, c4⟩ := t.2.2.2.2.2.2.2.2 c3
    exact ⟨c, c1, fun _ => c2, fun _ => c4, fun d => by rw [c3]; rfl⟩
  · exact ⟨0, by decide, fun e => absurd e c3, fun e => absurd (k4_.mp e) c3, fun d => by rw [nbqf c3, nbqf (fun e => c3 (k4_.mp e))]⟩
theorem x_beg_f {H : List AE} {w : Nat} (hw : w < 32) (h : (ev_sw.getD w 0).toInt < 16 ∨ 26 < (ev_sw.getD w 0).toInt) : FR 1 134 [.retAddr w] H (some (.int (Int32.ofNat 0)), ov H []) := by
  refine FR_of rfl ?_
  refine RT_step (pc2 := 3) rfl (fun _ _ => rfl) ?_
  refine RT_step (pc2 := 4) rfl (fun _ _ => rfl) ?_
  refine rt_ord rfl hw rfl ?_
  refine rt_isw rfl (sw_rd hw) ?_
  refine rt_tsD (t := 70) rfl h rfl ?_
  refine rt_ico rfl ki_0 ?_
  exact ow_irt rfl rfl rfl
theorem x_beg_t {H : List AE} {w : Nat} (h : w = 22 ∨ w = 23 ∨ w = 3 ∨ w = 24 ∨ w = 25 ∨ w = 26 ∨ w = 27 ∨ w = 28 ∨ w = 29 ∨ w = 30 ∨ w = 31) : FR 1 134 [.retAddr w] H (some (.int (Int32.ofNat 1)), ov H []) := by
  rcases h with rfl | rfl | rfl | rfl | rfl | rfl | rfl | rfl | rfl | rfl | rfl
  · refine FR_of rfl ?_
    refine RT_step (pc2 := 3) rfl (fun _ _ => rfl) ?_
    refine RT_step (pc2 := 4) rfl (fun _ _ => rfl) ?_
    refine rt_ord rfl (by decide) rfl ?_
    refine rt_isw rfl (v := 16) (by decide +kernel) ?_
    refine RT_step (pc2 := 68) rfl (fun _ _ => rfl) ?_
    refine rt_ico rfl ki_1 ?_
    exact ow_irt rfl rfl rfl
  · refine FR_of rfl ?_
    refine RT_step (pc2 := 3) rfl (fun _ _ => rfl) ?_
    refine RT_step (pc2 := 4) rfl (fun _ _ => rfl) ?_
    refine rt_ord rfl (by decide) rfl ?_
    refine rt_isw rfl (v := 22) (by decide +kernel) ?_
    refine RT_step (pc2 := 68) rfl (fun _ _ => rfl) ?_
    refine rt_ico rfl ki_1 ?_
    exact ow_irt rfl rfl rfl
  · refine FR_of rfl ?_
    refine RT_step (pc2 := 3) rfl (fun _ _ => rfl) ?_
    refine RT_step (pc2 := 4) rfl (fun _ _ => rfl) ?_
    refine rt_ord rfl (by decide) rfl ?_
    refine rt_isw rfl (v := 23) (by decide +kernel) ?_
    refine RT_step (pc2 := 68) rfl (fun _ _ => rfl) ?_
    refine rt_ico rfl ki_1 ?_
    exact ow_irt rfl rfl rfl
  · refine FR_of rfl ?_
    refine RT_step (pc2 := 3) rfl (fun _ _ => rfl) ?_
    refine RT_step (pc2 := 4) rfl (fun _ _ => rfl) ?_
    refine rt_ord rfl (by decide) rfl ?_
    refine rt_isw rfl (v := 24) (by decide +kernel) ?_
    refine RT_step (pc2 := 68) rfl (fun _ _ => rfl) ?_
    refine rt_ico rfl ki_1 ?_
    exact ow_irt rfl rfl rfl
  · refine FR_of rfl ?_
    refine RT_step (pc2 := 3) rfl (fun _ _ => rfl) ?_
    refine RT_step (pc2 := 4) rfl (fun _ _ => rfl) ?_
    refine rt_ord rfl (by decide) rfl ?_
    refine rt_isw rfl (v := 25) (by decide +kernel) ?_
    refine RT_step (pc2 := 68) rfl (fun _ _ => rfl) ?_
    refine rt_ico rfl ki_1 ?_
    exact ow_irt rfl rfl rfl
  · refine FR_of rfl ?_
    refine RT_step (pc2 := 3) rfl (fun _ _ => rfl) ?_
    refine RT_step (pc2 := 4) rfl (fun _ _ => rfl) ?_
    refine rt_ord rfl (by decide) rfl ?_
    refine rt_isw rfl (v := 26) (by decide +kernel) ?_
    refine RT_step (pc2 := 68) rfl (fun _ _ => rfl) ?_
    refine rt_ico rfl ki_1 ?_
    exact ow_irt rfl rfl rfl
  · refine FR_of rfl ?_
    refine RT_step (pc2 := 3) rfl (fun _ _ => rfl) ?_
    refine RT_step (pc2 := 4) rfl (fun _ _ => rfl) ?_
    refine rt_ord rfl (by decide) rfl ?_
    refine rt_isw rfl (v := 17) (by decide +kernel) ?_
    refine RT_step (pc2 := 68) rfl (fun _ _ => rfl) ?_
    refine rt_ico rfl ki_1 ?_
    exact ow_irt rfl rfl rfl
  · refine FR_of rfl ?_
    refine RT_step (pc2 := 3) rfl (fun _ _ => rfl) ?_
    refine RT_step (pc2 := 4) rfl (fun _ _ => rfl) ?_
    refine rt_ord rfl (by decide) rfl ?_
    refine rt_isw rfl (v := 18) (by decide +kernel) ?_
    refine RT_step (pc2 := 68) rfl (fun _ _ => rfl) ?_
    refine rt_ico rfl ki_1 ?_
    exact ow_irt rfl rfl rfl
  · refine FR_of rfl ?_
    refine RT_step (pc2 := 3) rfl (fun _ _ => rfl) ?_
    refine RT_step (pc2 := 4) rfl (fun _ _ => rfl) ?_
    refine rt_ord rfl (by decide) rfl ?_
    refine rt_isw rfl (v := 19) (by decide +kernel) ?_
    refine RT_step (pc2 := 68) rfl (fun _ _ => rfl) ?_
    refine rt_ico rfl ki_1 ?_
    exact ow_irt rfl rfl rfl
  · refine FR_of rfl ?_
    refine RT_step (pc2 := 3) rfl (fun _ _ => rfl) ?_
    refine RT_step (pc2 := 4) rfl (fun _ _ => rfl) ?_
    refine rt_ord rfl (by decide) rfl ?_
    refine rt_isw rfl (v := 20) (by decide +kernel) ?_
    refine RT_step (pc2 := 68) rfl (fun _ _ => rfl) ?_
    refine rt_ico rfl ki_1 ?_
    exact ow_irt rfl rfl rfl
  · refine FR_of rfl ?_
    refine RT_step (pc2 := 3) rfl (fun _ _ => rfl) ?_
    refine RT_step (pc2 := 4) rfl (fun _ _ => rfl) ?_
    refine rt_ord rfl (by decide) rfl ?_
    refine rt_isw rfl (v := 21) (by decide +kernel) ?_
    refine RT_step (pc2 := 68) rfl (fun _ _ => rfl) ?_
    refine rt_ico rfl ki_1 ?_
    exact ow_irt rfl rfl rfl
