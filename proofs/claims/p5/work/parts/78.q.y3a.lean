theorem k8_12 : (Int8.ofInt 12).toInt32 = Int32.ofNat 12 := by decide +kernel
theorem k8_18 : (Int8.ofInt 18).toInt32 = Int32.ofNat 18 := by decide +kernel
theorem k8_19 : (Int8.ofInt 19).toInt32 = Int32.ofNat 19 := by decide +kernel
theorem k8_20 : (Int8.ofInt 20).toInt32 = Int32.ofNat 20 := by decide +kernel
theorem k8_21 : (Int8.ofInt 21).toInt32 = Int32.ofNat 21 := by decide +kernel
theorem k8_28 : (Int8.ofInt 28).toInt32 = Int32.ofNat 28 := by decide +kernel
theorem k8_30 : (Int8.ofInt 30).toInt32 = Int32.ofNat 30 := by decide +kernel
theorem k8_36 : (Int8.ofInt 36).toInt32 = Int32.ofNat 36 := by decide +kernel
theorem k8_44 : (Int8.ofInt 44).toInt32 = Int32.ofNat 44 := by decide +kernel
theorem k8_45 : (Int8.ofInt 45).toInt32 = Int32.ofNat 45 := by decide +kernel
theorem k8_52 : (Int8.ofInt 52).toInt32 = Int32.ofNat 52 := by decide +kernel
theorem k8_8 : (Int8.ofInt 8).toInt32 = Int32.ofNat 8 := by decide +kernel
theorem k8_9 : (Int8.ofInt 9).toInt32 = Int32.ofNat 9 := by decide +kernel
/-! ===== the readers of LINES: both read alike (cells from 3 on) ===== -/
def TC1 (n lim : Nat) (po : List Value) (k : Nat) (tk td : Int32) (T M : AE) : Prop := ∃ (a kd pl w : Nat) (le : Int64) (nu fp nm sg qm : Int32) (wd : Int64), T = tcl n lim a kd pl w le nu tk (Int32.ofNat 0) fp ∧ M = mcl (Int32.ofNat 0) (Int32.ofNat 0) n lim a pl (km kd) nm sg (Int32.ofNat 0) qm wd td po ∧ TF k n a kd w le nu nm sg wd ∧ kd = 1
theorem ix_f (p q : Nat) : Int32.ofNat 52 + Int32.ofNat 7 * Int32.ofNat p + Int32.ofNat q = Int32.ofNat (52 + (p * 7 + q)) := by
  rw [← Int32.ofNat_mul, n_add, n_add, show 52 + 7 * p + q = 52 + (p * 7 + q) from by omega]
theorem m_has {H : List AE} {x k : Nat} (hx : x < 256) (hk : k < 8) : FR 1 209 [.int (Int32.ofNat x), .int (Int32.ofNat k)] H (some (.int (b01 (x.testBit k))), ov H []) := by
  refine FR_of rfl ?_
  cases e : x.testBit k with
  | true =>
    refine RT_step (pc2 := 1) rfl (fun _ _ => rfl) ?_
    refine RT_step (pc2 := 2) rfl (fun _ _ => rfl) ?_
    refine ba_ishr rfl ?_
    refine rt_ico rfl ki_1 ?_
    refine ba_iand rfl ?_
    rw [shr_1 k hk x hx]
    refine rt_ico rfl ki_1 ?_
    refine biT_ne rfl (b01_1 e) ?_
    refine rt_ico rfl ki_1 ?_
    refine RT_step (pc2 := 14) rfl (fun _ _ => rfl) ?_
    exact ow_irt rfl rfl rfl
  | false =>
    refine RT_step (pc2 := 1) rfl (fun _ _ => rfl) ?_
    refine RT_step (pc2 := 2) rfl (fun _ _ => rfl) ?_
    refine ba_ishr rfl ?_
    refine rt_ico rfl ki_1 ?_
    refine ba_iand rfl ?_
    rw [shr_1 k hk x hx]
    refine rt_ico rfl ki_1 ?_
    refine biF_ne rfl (b01_0 e) ?_
    refine rt_ico rfl ki_0 ?_
    exact ow_irt rfl rfl rfl
theorem sn3 {B : Nat → Nat} {bs ts : List Int32} {n lim : Nat} {pr : List Value} {k a kd pl w : Nat} {le : Int64} {nu tk td fp nm sg qm : Int32} {wd : Int64} {P : Nat} {Dn : Nat} {lw : Int32} {cl : Int32} {id : Int32} {gl : Nat} {bo : Nat} {pn : List Int64} {ri : List Int32} {lf : List Int32} {wa : List Int32} {fo : List Int32} {dn : List Int64} {ha : List Int32} {pa : List Int32} {bl : List Int32} {rd : List Int32} {rn : List Int64} {on : List Int32} (hB : BY bs B) (hM : MY ts B) (hb : ∀ i, B i < 256) (hn : n ≤ 940) (hl : lim ≤ 940) (t : TF k n a kd w le nu nm sg wd) (d : DR P Dn lw cl id gl bo pn ri lf wa fo dn ha pa bl rd rn on) : (∃ T M, FC n lim (pof pr) T M ∧ ∀ s : Nat, LR bs ts 2 70 [.ref 3, .ref 1] 4 258 [.ref 180, .int (Int32.ofNat s)] (tcl n lim a kd pl w le nu tk (Int32.ofNat 0) fp) (mcl (Int32.ofNat 0) (Int32.ofNat 0) n lim a pl (km kd) nm sg (Int32.ofNat 0) qm wd td (pof pr)) [(3, dcl3 P Dn lw cl id gl bo), (4, lng pn), (5, ia ri), (6, ia lf), (7, ia wa), (8, ia fo), (9, lng dn), (10, ia ha), (11, ia pa), (12, ia bl)] [(183, ia rd), (188, lng rn), (191, zb on)] (.int (Int32.ofNat 0)) (.int (Int32.ofNat 0)) (T) (M) [(3, dcl3 P Dn lw cl id gl bo), (4, lng pn), (5, ia ri), (6, ia lf), (7, ia wa), (8, ia fo), (9, lng dn), (10, ia ha), (11, ia pa), (12, ia bl)] [(183, ia rd), (188, lng rn), (191, zb on)]) ∨ (kd = 1 ∧ ∃ (rs : List Nat) (T M : AE), nok rs ∧ le = p5 rs ∧ wd = p27 rs ∧ TC n lim (pof pr) (k + 1) tk td T M ∧ XQt bs 3 155 [.ref 1] (tcl n lim a kd pl w le nu tk (Int32.ofNat 0) fp) none T ∧ ∀ s : Nat, s < 15 → LR bs ts 2 70 [.ref 3, .ref 1] 4 258 [.ref 180, .int (Int32.ofNat s)] (tcl n lim a kd pl w le nu tk (Int32.ofNat 0) fp) (mcl (Int32.ofNat 0) (Int32.ofNat 0) n lim a pl (km kd) nm sg (Int32.ofNat 0) qm wd td (pof pr)) [(3, dcl3 P Dn lw cl id gl bo), (4, lng pn), (5, ia ri), (6, ia lf), (7, ia wa), (8, ia fo), (9, lng dn), (10, ia ha), (11, ia pa), (12, ia bl)] [(183, ia rd), (188, lng rn), (191, zb on)] (.int (Int32.ofNat 1)) (.int (Int32.ofNat 1)) (tcl n lim a kd pl w le nu tk (Int32.ofNat 0) fp) (M) [(3, dcl3 P Dn lw cl id gl bo), (4, lng pn), (5, ia ri), (6, ia lf), (7, ia wa), (8, ia fo), (9, lng dn), (10, ia ha), (11, ia pa), (12, ia bl)] [(183, ia rd), (188, lng (rn.set s wd)), (191, zb on)]) := by
  obtain ⟨hP, hD, ⟨l1, l2, l3, l4, l5, l6, l7, l8, l9⟩, lr, ln, lo, hN, hV, hW, o1, o2, o3⟩ := d
  have hk := (km_is kd t.2.2.2.1).2.2.2.2.2
  have hw := t.2.2.2.2.1
  by_cases c : w = 1
  · have hk1 := w_k1 t (by omega)
    obtain ⟨rs, r1, r2, r3, r4, r5, r6⟩ := t.2.2.2.2.2.1 hk1
    have hr : nok rs := ⟨r1, r2, r3⟩
    have hnm : (Nat.beq (km kd) 2 && nmB wd 30 0) = true := by rw [w_nm t, c]; rfl
    have q1 := nm_eq hr hN.1
    have q2 := nm_eq hr hN.2
    rw [← r4, ← r5] at q1 q2
    cases e1 : fd pn le 0 P 0 with
    | some j =>
      have hj := (fd_lt e1).2
      obtain ⟨T, M, f, hx, hm⟩ := s_ref (bs := bs) (ts := ts) (lim := lim) (po := pof pr) (pl := pl) (tk := tk) (td := td) (fp := fp) (plM := qm) t (kk := 3) (by decide) (by decide) (Or.inl (by omega))
      refine Or.inl ⟨T, M, f, fun s => ⟨fun H hlen => ?_, fun H hlen => ?_⟩⟩
      · refine FR_st rfl rfl ?_
        refine RT_step (pc2 := 1) rfl (fun _ _ => rfl) ?_
        refine ow_gf rfl rfl rfl hlen rfl ?_
        refine RT_step (pc2 := 7) rfl (fun _ _ => rfl) ?_
        refine rt_acE rfl (by omega) (by omega) ?_
        refine RT_if c ?_
        refine RT_step (pc2 := 17) rfl (fun _ _ => rfl) ?_
        refine ow_gf rfl rfl rfl hlen rfl ?_
        refine RT_step (pc2 := 21) rfl (fun _ _ => rfl) ?_
        refine ow_gf rfl rfl rfl hlen rfl ?_
        refine RT_step (pc2 := 25) rfl (fun _ _ => rfl) ?_
        refine ow_gf rfl rfl rfl hlen rfl ?_
        refine ow_is1 rfl rfl rfl rfl rfl ((x_find4 (ov_hl hlen) (ov_at rfl (ov_lt hlen (by decide))) (by omega) (by omega)).up (by decide)) rfl ?_
        refine rt_ico rfl ki_m1 ?_
        refine biF_ne rfl (fdI_s e1 (by omega)) ?_
        refine RT_step (pc2 := 55) rfl (fun _ _ => rfl) ?_
        refine rt_ico rfl ki_3 ?_
        refine ow_iv1 rfl rfl rfl rfl hlen rfl rfl rfl ((hx _ (ov_hl hlen) (ov_at rfl (ov_lt hlen (by decide))) (ov_at rfl (ov_lt hlen (by decide)))).up (by decide)) rfl ?_
        exact ow_irt rfl rfl rfl
      · exact m_new_3 hlen hk hnm hV.1 hV.2.1 hP hD ln (q1.symm.trans e1) (by omega) hm
    | none =>
      cases e2 : fd dn le 0 Dn 0 with
      | some j =>
        have hj := (fd_lt e2).2
        obtain ⟨T, M, f, hx, hm⟩ := s_ref (bs := bs) (ts := ts) (lim := lim) (po := pof pr) (pl := pl) (tk := tk) (td := td) (fp := fp) (plM := qm) t (kk := 3) (by decide) (by decide) (Or.inl (by omega))
        refine Or.inl ⟨T, M, f, fun s => ⟨fun H hlen => ?_, fun H hlen => ?_⟩⟩
        · refine FR_st rfl rfl ?_
          refine RT_step (pc2 := 1) rfl (fun _ _ => rfl) ?_
          refine ow_gf rfl rfl rfl hlen rfl ?_
          refine RT_step (pc2 := 7) rfl (fun _ _ => rfl) ?_
          refine rt_acE rfl (by omega) (by omega) ?_
          refine RT_if c ?_
          refine RT_step (pc2 := 17) rfl (fun _ _ => rfl) ?_
          refine ow_gf rfl rfl rfl hlen rfl ?_
          refine RT_step (pc2 := 21) rfl (fun _ _ => rfl) ?_
          refine ow_gf rfl rfl rfl hlen rfl ?_
          refine RT_step (pc2 := 25) rfl (fun _ _ => rfl) ?_
          refine ow_gf rfl rfl rfl hlen rfl ?_
          refine ow_is1 rfl rfl rfl rfl rfl ((x_find4 (ov_hl hlen) (ov_at rfl (ov_lt hlen (by decide))) (by omega) (by omega)).up (by decide)) rfl ?_
          refine rt_ico rfl ki_m1 ?_
          refine biT_ne rfl (fdI_n e1) ?_
          refine RT_step (pc2 := 36) rfl (fun _ _ => rfl) ?_
          refine ow_gf rfl rfl rfl hlen rfl ?_
          refine RT_step (pc2 := 40) rfl (fun _ _ => rfl) ?_
          refine ow_gf rfl rfl rfl hlen rfl ?_
          refine RT_step (pc2 := 44) rfl (fun _ _ => rfl) ?_
          refine ow_gf rfl rfl rfl hlen rfl ?_
          refine ow_is1 rfl rfl rfl rfl rfl ((x_find9 (ov_hl hlen) (ov_at rfl (ov_lt hlen (by decide))) (by omega) (by omega)).up (by decide)) rfl ?_
          refine rt_ico rfl ki_m1 ?_
          refine biF_eq rfl (fdI_s e2 (by omega)) ?_
          refine RT_step (pc2 := 55) rfl (fun _ _ => rfl) ?_
          refine rt_ico rfl ki_3 ?_
          refine ow_iv1 rfl rfl rfl rfl hlen rfl rfl rfl ((hx _ (ov_hl hlen) (ov_at rfl (ov_lt hlen (by decide))) (ov_at rfl (ov_lt hlen (by decide)))).up (by decide)) rfl ?_
          exact ow_irt rfl rfl rfl
        · exact m_new_4 hlen hk hnm hV.1 hV.2.1 hP hD ln (q1.symm.trans e1) (q2.symm.trans e2) (by omega) hm
      | none =>
        obtain ⟨T1, M1, c1, x1, m1⟩ := s_adv hB hM hb hn hl (po := pof pr) (pl := pl) (tk := tk) (td := td) (fp := fp) (plM := qm) t (by omega) (by omega)
        refine Or.inr ⟨hk1, rs, T1, M1, hr, r4, r5, c1, x1, fun s hs => ⟨fun H hlen => ?_, fun H hlen => ?_⟩⟩
        · refine FR_st rfl rfl ?_
          refine RT_step (pc2 := 1) rfl (fun _ _ => rfl) ?_
          refine ow_gf rfl rfl rfl hlen rfl ?_
          refine RT_step (pc2 := 7) rfl (fun _ _ => rfl) ?_
          refine rt_acE rfl (by omega) (by omega) ?_
          refine RT_if c ?_
          refine RT_step (pc2 := 17) rfl (fun _ _ => rfl) ?_
          refine ow_gf rfl rfl rfl hlen rfl ?_
          refine RT_step (pc2 := 21) rfl (fun _ _ => rfl) ?_
          refine ow_gf rfl rfl rfl hlen rfl ?_
          refine RT_step (pc2 := 25) rfl (fun _ _ => rfl) ?_
          refine ow_gf rfl rfl rfl hlen rfl ?_
          refine ow_is1 rfl rfl rfl rfl rfl ((x_find4 (ov_hl hlen) (ov_at rfl (ov_lt hlen (by decide))) (by omega) (by omega)).up (by decide)) rfl ?_
          refine rt_ico rfl ki_m1 ?_
          refine biT_ne rfl (fdI_n e1) ?_
          refine RT_step (pc2 := 36) rfl (fun _ _ => rfl) ?_
          refine ow_gf rfl rfl rfl hlen rfl ?_
          refine RT_step (pc2 := 40) rfl (fun _ _ => rfl) ?_
          refine ow_gf rfl rfl rfl hlen rfl ?_
          refine RT_step (pc2 := 44) rfl (fun _ _ => rfl) ?_
          refine ow_gf rfl rfl rfl hlen rfl ?_
          refine ow_is1 rfl rfl rfl rfl rfl ((x_find9 (ov_hl hlen) (ov_at rfl (ov_lt hlen (by decide))) (by omega) (by omega)).up (by decide)) rfl ?_
          refine rt_ico rfl ki_m1 ?_
          refine biT_eq rfl (fdI_n e2) ?_
          refine rt_ico rfl ki_1 ?_
          exact ow_irt rfl rfl rfl
        · exact m_new_t hlen hk hnm hV.1 hV.2.1 hP hD ln (q1.symm.trans e1) (q2.symm.trans e2) hs m1
  · have hnm : (Nat.beq (km kd) 2 && nmB wd 30 0) = false := by rw [w_nm t]; exact decide_eq_false c
    obtain ⟨T, M, f, hx, hm⟩ := s_ref (bs := bs) (ts := ts) (lim := lim) (po := pof pr) (pl := pl) (tk := tk) (td := td) (fp := fp) (plM := qm) t (kk := 1) (by decide) (by decide) (Or.inr rfl)
    refine Or.inl ⟨T, M, f, fun s => ⟨fun H hlen => ?_, fun H hlen => ?_⟩⟩
    · refine FR_st rfl rfl ?_
      refine RT_step (pc2 := 1) rfl (fun _ _ => rfl) ?_
      refine ow_gf rfl rfl rfl hlen rfl ?_
      refine RT_step (pc2 := 7) rfl (fun _ _ => rfl) ?_
      refine rt_acE rfl (by omega) (by omega) ?_
      refine RT_el c ?_
      refine RT_step (pc2 := 11) rfl (fun _ _ => rfl) ?_
      refine rt_ico rfl ki_1 ?_
      refine ow_iv1 rfl rfl rfl rfl hlen rfl rfl rfl ((hx _ (ov_hl hlen) (ov_at rfl (ov_lt hlen (by decide))) (ov_at rfl (ov_lt hlen (by decide)))).up (by decide)) rfl ?_
      exact ow_irt rfl rfl rfl
    · exact m_new_1 hlen hk hnm hm
theorem so3 {B : Nat → Nat} {bs ts : List Int32} {n lim : Nat} {pr : List Value} {k a kd pl w : Nat} {le : Int64} {nu tk td fp nm sg qm : Int32} {wd : Int64} {P : Nat} {Dn : Nat} {lw : Int32} {cl : Int32} {id : Int32} {gl : Nat} {bo : Nat} {pn : List Int64} {ri : List Int32} {lf : List Int32} {wa : List Int32} {fo : List Int32} {dn : List Int64} {ha : List Int32} {pa : List Int32} {bl : List Int32} {rd : List Int32} {rn : List Int64} {on : List Int32} (hB : BY bs B) (hM : MY ts B) (hb : ∀ i, B i < 256) (hn : n ≤ 940) (hl : lim ≤ 940) (t : TF k n a kd w le nu nm sg wd) (d : DR P Dn lw cl id gl bo pn ri lf wa fo dn ha pa bl rd rn on) : (∃ T M, FC n lim (pof pr) T M ∧ LR bs ts 3 73 [.ref 3, .ref 1] 4 222 [.ref 180] (tcl n lim a kd pl w le nu tk (Int32.ofNat 0) fp) (mcl (Int32.ofNat 0) (Int32.ofNat 0) n lim a pl (km kd) nm sg (Int32.ofNat 0) qm wd td (pof pr)) [(3, dcl3 P Dn lw cl id gl bo), (4, lng pn), (5, ia ri), (6, ia lf), (7, ia wa), (8, ia fo), (9, lng dn), (10, ia ha), (11, ia pa), (12, ia bl)] [(183, ia rd), (188, lng rn), (191, zb on)] (.int (-1 : Int32)) (.int (Int32.ofNat 0)) (T) (M) [(3, dcl3 P Dn lw cl id gl bo), (4, lng pn), (5, ia ri), (6, ia lf), (7, ia wa), (8, ia fo), (9, lng dn), (10, ia ha), (11, ia pa), (12, ia bl)] [(183, ia rd), (188, lng rn), (191, zb on)]) ∨ (kd = 1 ∧ ∃ j : Nat, j < P ∧ LR bs ts 3 73 [.ref 3, .ref 1] 4 222 [.ref 180] (tcl n lim a kd pl w le nu tk (Int32.ofNat 0) fp) (mcl (Int32.ofNat 0) (Int32.ofNat 0) n lim a pl (km kd) nm sg (Int32.ofNat 0) qm wd td (pof pr)) [(3, dcl3 P Dn lw cl id gl bo), (4, lng pn), (5, ia ri), (6, ia lf), (7, ia wa), (8, ia fo), (9, lng dn), (10, ia ha), (11, ia pa), (12, ia bl)] [(183, ia rd), (188, lng rn), (191, zb on)] (.int (Int32.ofNat j)) (.int (Int32.ofNat 1)) (tcl n lim a kd pl w le nu tk (Int32.ofNat 0) fp) (mcl (Int32.ofNat 0) (Int32.ofNat 0) n lim a pl (km kd) nm sg (Int32.ofNat 0) qm wd (Int32.ofNat j) (pof pr)) [(3, dcl3 P Dn lw cl id gl bo), (4, lng pn), (5, ia ri), (6, ia lf), (7, ia wa), (8, ia fo), (9, lng dn), (10, ia ha), (11, ia pa), (12, ia bl)] [(183, ia rd), (188, lng rn), (191, zb on)]) := by
  obtain ⟨hP, hD, ⟨l1, l2, l3, l4, l5, l6, l7, l8, l9⟩, lr, ln, lo, hN, hV, hW, o1, o2, o3⟩ := d
  have hk := (km_is kd t.2.2.2.1).2.2.2.2.2
  have hw := t.2.2.2.2.1
  by_cases c : w = 1
  · have hk1 := w_k1 t (by omega)
    obtain ⟨rs, r1, r2, r3, r4, r5, r6⟩ := t.2.2.2.2.2.1 hk1
    have hr : nok rs := ⟨r1, r2, r3⟩
    have hnm : (Nat.beq (km kd) 2 && nmB wd 30 0) = true := by rw [w_nm t, c]; rfl
    have q1 := nm_eq hr hN.1
    rw [← r4, ← r5] at q1
    cases e1 : fd pn le 0 P 0 with
    | some j =>
      have hj := (fd_lt e1).2
      refine Or.inr ⟨hk1, j, by omega, fun H hlen => ?_, fun H hlen => ?_⟩
      · have hz : FR 2 71 [.ref 1, .ref 4, .int (Int32.ofNat P)] (ov H ((1, tcl n lim a kd pl w le nu tk (Int32.ofNat 0) fp) :: (2, bcl bs) :: [(3, dcl3 P Dn lw cl id gl bo), (4, lng pn), (5, ia ri), (6, ia lf), (7, ia wa), (8, ia fo), (9, lng dn), (10, ia ha), (11, ia pa), (12, ia bl)])) (some (.int (Int32.ofNat j)), ov (ov H ((1, tcl n lim a kd pl w le nu tk (Int32.ofNat 0) fp) :: (2, bcl bs) :: [(3, dcl3 P Dn lw cl id gl bo), (4, lng pn), (5, ia ri), (6, ia lf), (7, ia wa), (8, ia fo), (9, lng dn), (10, ia ha), (11, ia pa), (12, ia bl)])) ((1, tcl n lim a kd pl w le nu tk (Int32.ofNat 0) fp) :: (2, bcl bs) :: [(3, dcl3 P Dn lw cl id gl bo), (4, lng pn), (5, ia ri), (6, ia lf), (7, ia wa), (8, ia fo), (9, lng dn), (10, ia ha), (11, ia pa), (12, ia bl)])) := by
          refine FR_st rfl rfl ?_
          refine RT_step (pc2 := 1) rfl (fun _ _ => rfl) ?_
          refine ow_gf rfl rfl rfl hlen rfl ?_
          refine RT_step (pc2 := 7) rfl (fun _ _ => rfl) ?_
          refine rt_acE rfl (by omega) (by omega) ?_
          refine RT_if c ?_
          refine RT_step (pc2 := 19) rfl (fun _ _ => rfl) ?_
          refine RT_step (pc2 := 20) rfl (fun _ _ => rfl) ?_
          refine RT_step (pc2 := 21) rfl (fun _ _ => rfl) ?_
          refine ow_gf rfl rfl rfl hlen rfl ?_
          refine ow_is1 rfl rfl rfl rfl rfl ((x_find4 (ov_hl hlen) (ov_at rfl (ov_lt hlen (by decide))) (by omega) (by omega)).up (by decide)) rfl ?_
          rw [show fdI (fd pn le 0 P 0) = Int32.ofNat j from by rw [e1]; rfl]
          refine RT_step (pc2 := 28) rfl (fun _ _ => rfl) ?_
          refine RT_step (pc2 := 29) rfl (fun _ _ => rfl) ?_
          refine rt_ico rfl ki_m1 ?_
          refine biF_ne rfl (n_m1 (by omega)) ?_
          refine RT_step (pc2 := 40) rfl (fun _ _ => rfl) ?_
          exact ow_irt rfl rfl rfl
        refine FR_st rfl rfl ?_
        refine RT_step (pc2 := 1) rfl (fun _ _ => rfl) ?_
        refine RT_step (pc2 := 2) rfl (fun _ _ => rfl) ?_
        refine ow_gf rfl rfl rfl hlen rfl ?_
        refine RT_step (pc2 := 6) rfl (fun _ _ => rfl) ?_
        refine ow_gf rfl rfl rfl hlen rfl ?_
        refine ow_is1 (l2 := ((1, tcl n lim a kd pl w le nu tk (Int32.ofNat 0) fp) :: (2, bcl bs) :: [(3, dcl3 P Dn lw cl id gl bo), (4, lng pn), (5, ia ri), (6, ia lf), (7, ia wa), (8, ia fo), (9, lng dn), (10, ia ha), (11, ia pa), (12, ia bl)])) rfl rfl rfl rfl rfl (hz.up (by decide)) rfl ?_
        exact ow_irt rfl rfl rfl
      · exact m_one_t hlen hk hnm hV.1 hP ln (q1.symm.trans e1) (by omega)
    | none =>
      obtain ⟨T, M, f, hx, hm⟩ := s_ref (bs := bs) (ts := ts) (lim := lim) (po := pof pr) (pl := pl) (tk := tk) (td := (-1 : Int32)) (fp := fp) (plM := qm) t (kk := 3) (by decide) (by decide) (Or.inl (by omega))
      refine Or.inl ⟨T, M, f, fun H hlen => ?_, fun H hlen => ?_⟩
      · have hz : FR 2 71 [.ref 1, .ref 4, .int (Int32.ofNat P)] (ov H ((1, tcl n lim a kd pl w le nu tk (Int32.ofNat 0) fp) :: (2, bcl bs) :: [(3, dcl3 P Dn lw cl id gl bo), (4, lng pn), (5, ia ri), (6, ia lf), (7, ia wa), (8, ia fo), (9, lng dn), (10, ia ha), (11, ia pa), (12, ia bl)])) (some (.int (-1 : Int32)), ov (ov H ((1, tcl n lim a kd pl w le nu tk (Int32.ofNat 0) fp) :: (2, bcl bs) :: [(3, dcl3 P Dn lw cl id gl bo), (4, lng pn), (5, ia ri), (6, ia lf), (7, ia wa), (8, ia fo), (9, lng dn), (10, ia ha), (11, ia pa), (12, ia bl)])) ((1, T) :: (2, bcl bs) :: [(3, dcl3 P Dn lw cl id gl bo), (4, lng pn), (5, ia ri), (6, ia lf), (7, ia wa), (8, ia fo), (9, lng dn), (10, ia ha), (11, ia pa), (12, ia bl)])) := by
          refine FR_st rfl rfl ?_
          refine RT_step (pc2 := 1) rfl (fun _ _ => rfl) ?_
          refine ow_gf rfl rfl rfl hlen rfl ?_
          refine RT_step (pc2 := 7) rfl (fun _ _ => rfl) ?_
          refine rt_acE rfl (by omega) (by omega) ?_
          refine RT_if c ?_
          refine RT_step (pc2 := 19) rfl (fun _ _ => rfl) ?_
          refine RT_step (pc2 := 20) rfl (fun _ _ => rfl) ?_
          refine RT_step (pc2 := 21) rfl (fun _ _ => rfl) ?_
          refine ow_gf rfl rfl rfl hlen rfl ?_
          refine ow_is1 rfl rfl rfl rfl rfl ((x_find4 (ov_hl hlen) (ov_at rfl (ov_lt hlen (by decide))) (by omega) (by omega)).up (by decide)) rfl ?_
          rw [show fdI (fd pn le 0 P 0) = (-1 : Int32) from by rw [e1]; rfl]
          refine RT_step (pc2 := 28) rfl (fun _ _ => rfl) ?_
          refine RT_step (pc2 := 29) rfl (fun _ _ => rfl) ?_
          refine rt_ico rfl ki_m1 ?_
          refine biT_ne rfl rfl ?_
          refine RT_step (pc2 := 34) rfl (fun _ _ => rfl) ?_
          refine rt_ico rfl ki_3 ?_
          refine ow_iv1 rfl rfl rfl rfl hlen rfl rfl rfl ((hx _ (ov_hl hlen) (ov_at rfl (ov_lt hlen (by decide))) (ov_at rfl (ov_lt hlen (by decide)))).up (by decide)) rfl ?_
          refine RT_step (pc2 := 39) rfl (fun _ _ => rfl) ?_
          refine RT_step (pc2 := 40) rfl (fun _ _ => rfl) ?_
          exact ow_irt rfl rfl rfl
        refine FR_st rfl rfl ?_
        refine RT_step (pc2 := 1) rfl (fun _ _ => rfl) ?_
        refine RT_step (pc2 := 2) rfl (fun _ _ => rfl) ?_
        refine ow_gf rfl rfl rfl hlen rfl ?_
        refine RT_step (pc2 := 6) rfl (fun _ _ => rfl) ?_
        refine ow_gf rfl rfl rfl hlen rfl ?_
        refine ow_is1 (l2 := ((1, T) :: (2, bcl bs) :: [(3, dcl3 P Dn lw cl id gl bo), (4, lng pn), (5, ia ri), (6, ia lf), (7, ia wa), (8, ia fo), (9, lng dn), (10, ia ha), (11, ia pa), (12, ia bl)])) rfl rfl rfl rfl rfl (hz.up (by decide)) rfl ?_
        exact ow_irt rfl rfl rfl
      · exact m_one_3 hlen hk hnm hV.1 hP ln (q1.symm.trans e1) hm
  · have hnm : (Nat.beq (km kd) 2 && nmB wd 30 0) = false := by rw [w_nm t]; exact decide_eq_false c
    obtain ⟨T, M, f, hx, hm⟩ := s_ref (bs := bs) (ts := ts) (lim := lim) (po := pof pr) (pl := pl) (tk := tk) (td := td) (fp := fp) (plM := qm) t (kk := 1) (by decide) (by decide) (Or.inr rfl)
    refine Or.inl ⟨T, M, f, fun H hlen => ?_, fun H hlen => ?_⟩
    · have hz : FR 2 71 [.ref 1, .ref 4, .int (Int32.ofNat P)] (ov H ((1, tcl n lim a kd pl w le nu tk (Int32.ofNat 0) fp) :: (2, bcl bs) :: [(3, dcl3 P Dn lw cl id gl bo), (4, lng pn), (5, ia ri), (6, ia lf), (7, ia wa), (8, ia fo), (9, lng dn), (10, ia ha), (11, ia pa), (12, ia bl)])) (some (.int (-1 : Int32)), ov (ov H ((1, tcl n lim a kd pl w le nu tk (Int32.ofNat 0) fp) :: (2, bcl bs) :: [(3, dcl3 P Dn lw cl id gl bo), (4, lng pn), (5, ia ri), (6, ia lf), (7, ia wa), (8, ia fo), (9, lng dn), (10, ia ha), (11, ia pa), (12, ia bl)])) ((1, T) :: (2, bcl bs) :: [(3, dcl3 P Dn lw cl id gl bo), (4, lng pn), (5, ia ri), (6, ia lf), (7, ia wa), (8, ia fo), (9, lng dn), (10, ia ha), (11, ia pa), (12, ia bl)])) := by
        refine FR_st rfl rfl ?_
        refine RT_step (pc2 := 1) rfl (fun _ _ => rfl) ?_
        refine ow_gf rfl rfl rfl hlen rfl ?_
        refine RT_step (pc2 := 7) rfl (fun _ _ => rfl) ?_
        refine rt_acE rfl (by omega) (by omega) ?_
        refine RT_el c ?_
        refine RT_step (pc2 := 11) rfl (fun _ _ => rfl) ?_
        refine rt_ico rfl ki_1 ?_
        refine ow_iv1 rfl rfl rfl rfl hlen rfl rfl rfl ((hx _ (ov_hl hlen) (ov_at rfl (ov_lt hlen (by decide))) (ov_at rfl (ov_lt hlen (by decide)))).up (by decide)) rfl ?_
        refine RT_step (pc2 := 16) rfl (fun _ _ => rfl) ?_
        refine rt_ico rfl ki_m1 ?_
        exact ow_irt rfl rfl rfl
      refine FR_st rfl rfl ?_
      refine RT_step (pc2 := 1) rfl (fun _ _ => rfl) ?_
      refine RT_step (pc2 := 2) rfl (fun _ _ => rfl) ?_
      refine ow_gf rfl rfl rfl hlen rfl ?_
      refine RT_step (pc2 := 6) rfl (fun _ _ => rfl) ?_
      refine ow_gf rfl rfl rfl hlen rfl ?_
      refine ow_is1 (l2 := ((1, T) :: (2, bcl bs) :: [(3, dcl3 P Dn lw cl id gl bo), (4, lng pn), (5, ia ri), (6, ia lf), (7, ia wa), (8, ia fo), (9, lng dn), (10, ia ha), (11, ia pa), (12, ia bl)])) rfl rfl rfl rfl rfl (hz.up (by decide)) rfl ?_
      exact ow_irt rfl rfl rfl
    · exact m_one_1 hlen hk hnm hm
theorem tw3 {B : Nat → Nat} {bs ts : List Int32} {n lim : Nat} {pr : List Value} {k a kd pl w : Nat} {le : Int64} {nu tk td fp nm sg qm : Int32} {wd : Int64} {P : Nat} {Dn : Nat} {lw : Int32} {cl : Int32} {id : Int32} {gl : Nat} {bo : Nat} {pn : List Int64} {ri : List Int32} {lf : List Int32} {wa : List Int32} {fo : List Int32} {dn : List Int64} {ha : List Int32} {pa : List Int32} {bl : List Int32} {rd : List Int32} {rn : List Int64} {on : List Int32} (hB : BY bs B) (hM : MY ts B) (hb : ∀ i, B i < 256) (hn : n ≤ 940) (hl : lim ≤ 940) (t : TF k n a kd w le nu nm sg wd) (hk1 : kd = 1) (d : DR P Dn lw cl id gl bo pn ri lf wa fo dn ha pa bl rd rn on) : (∃ T M, FC n lim (pof pr) T M ∧ LR bs ts 4 80 [.ref 3, .ref 1] 5 264 [.ref 180] (tcl n lim a kd pl w le nu tk (Int32.ofNat 0) fp) (mcl (Int32.ofNat 0) (Int32.ofNat 0) n lim a pl (km kd) nm sg (Int32.ofNat 0) qm wd td (pof pr)) [(3, dcl3 P Dn lw cl id gl bo), (4, lng pn), (5, ia ri), (6, ia lf), (7, ia wa), (8, ia fo), (9, lng dn), (10, ia ha), (11, ia pa), (12, ia bl)] [(183, ia rd), (188, lng rn), (191, zb on)] (.int (-1 : Int32)) (.int (-1 : Int32)) (T) (M) [(3, dcl3 P Dn lw cl id gl bo), (4, lng pn), (5, ia ri), (6, ia lf), (7, ia wa), (8, ia fo), (9, lng dn), (10, ia ha), (11, ia pa), (12, ia bl)] [(183, ia rd), (188, lng rn), (191, zb on)]) ∨ (∃ (p q : Nat) (T M : AE), p < P ∧ q < P ∧ p ≠ q ∧ TC1 n lim (pof pr) (k + 2) tk (Int32.ofNat q) T M ∧ LR bs ts 4 80 [.ref 3, .ref 1] 5 264 [.ref 180] (tcl n lim a kd pl w le nu tk (Int32.ofNat 0) fp) (mcl (Int32.ofNat 0) (Int32.ofNat 0) n lim a pl (km kd) nm sg (Int32.ofNat 0) qm wd td (pof pr)) [(3, dcl3 P Dn lw cl id gl bo), (4, lng pn), (5, ia ri), (6, ia lf), (7, ia wa), (8, ia fo), (9, lng dn), (10, ia ha), (11, ia pa), (12, ia bl)] [(183, ia rd), (188, lng rn), (191, zb on)] (.int (Int32.ofNat (p * 7 + q))) (.int (Int32.ofNat p)) (T) (M) [(3, dcl3 P Dn lw cl id gl bo), (4, lng pn), (5, ia ri), (6, ia lf), (7, ia wa), (8, ia fo), (9, lng dn), (10, ia ha), (11, ia pa), (12, ia bl)] [(183, ia rd), (188, lng rn), (191, zb on)]) := by
  have hP := d.1
  obtain ⟨T1, M1, c1, x1, m1⟩ := s_adv hB hM hb hn hl (po := pof pr) (pl := pl) (tk := tk) (td := td) (fp := fp) (plM := qm) t (by omega) (by omega)
  obtain ⟨a1, kd1, pl1, w1, le1, nu1, fp1, nm1, sg1, qm1, wd1, rfl, rfl, t1⟩ := c1
  rcases so3 hB hM hb hn hl (pr := pr) (pl := pl1) (tk := tk) (td := td) (fp := fp1) (qm := qm1) t1 d with ⟨T, M, f, h⟩ | ⟨hk2, p, hp, h⟩
  · refine Or.inl ⟨T, M, f, fun H hlen => ?_, fun H hlen => ?_⟩
    · refine FR_st rfl rfl ?_
      refine RT_step (pc2 := 1) rfl (fun _ _ => rfl) ?_
      refine ow_iv0 (l2 := ((1, tcl n lim a1 kd1 pl1 w1 le1 nu1 tk (Int32.ofNat 0) fp1) :: (2, bcl bs) :: [(3, dcl3 P Dn lw cl id gl bo), (4, lng pn), (5, ia ri), (6, ia lf), (7, ia wa), (8, ia fo), (9, lng dn), (10, ia ha), (11, ia pa), (12, ia bl)])) rfl rfl rfl rfl hlen rfl rfl rfl ((x1 _ (ov_hl hlen) (ov_at rfl (ov_lt hlen (by decide))) (ov_at rfl (ov_lt hlen (by decide)))).up (by decide)) rfl ?_
      refine RT_step (pc2 := 5) rfl (fun _ _ => rfl) ?_
      refine RT_step (pc2 := 6) rfl (fun _ _ => rfl) ?_
      refine ow_iv1 (l2 := ((1, T) :: (2, bcl bs) :: [(3, dcl3 P Dn lw cl id gl bo), (4, lng pn), (5, ia ri), (6, ia lf), (7, ia wa), (8, ia fo), (9, lng dn), (10, ia ha), (11, ia pa), (12, ia bl)])) rfl rfl rfl rfl hlen rfl rfl rfl ((h.1 H hlen).up (by decide)) rfl ?_
      refine RT_step (pc2 := 10) rfl (fun _ _ => rfl) ?_
      refine RT_step (pc2 := 11) rfl (fun _ _ => rfl) ?_
      refine rt_ico rfl ki_m1 ?_
      refine biT_ne rfl rfl ?_
      refine rt_ico rfl ki_m1 ?_
      exact ow_irt rfl rfl rfl
    · refine FR_st rfl rfl ?_
      refine RT_step (pc2 := 1) rfl (fun _ _ => rfl) ?_
      refine ow_iv0 (l2 := ((180, mcl (Int32.ofNat 0) (Int32.ofNat 0) n lim a1 pl1 (km kd1) nm1 sg1 (Int32.ofNat 0) qm1 wd1 td (pof pr)) :: (181, mtl ts) :: [(183, ia rd), (188, lng rn), (191, zb on)])) rfl rfl rfl rfl hlen rfl rfl rfl ((m1 _ (ov_hl hlen) (ov_at rfl (ov_lt hlen (by decide))) (ov_at rfl (ov_lt hlen (by decide)))).up (by decide)) rfl ?_
      refine RT_step (pc2 := 5) rfl (fun _ _ => rfl) ?_
      refine ow_iv1 (l2 := ((180, M) :: (181, mtl ts) :: [(183, ia rd), (188, lng rn), (191, zb on)])) rfl rfl rfl rfl hlen rfl rfl rfl ((h.2 H hlen).up (by decide)) rfl ?_
      refine bcT_ne rfl rfl ?_
      refine rt_ico rfl ki_m1 ?_
      exact ow_irt rfl rfl rfl
  · obtain ⟨T2, M2, c2, x2, m2⟩ := s_adv hB hM hb hn hl (po := pof pr) (pl := pl1) (tk := tk) (td := (Int32.ofNat p)) (fp := fp1) (plM := qm1) t1 (by omega) (by omega)
    obtain ⟨a2, kd2, pl2, w2, le2, nu2, fp2, nm2, sg2, qm2, wd2, rfl, rfl, t2⟩ := c2
    rcases so3 hB hM hb hn hl (pr := pr) (pl := pl2) (tk := tk) (td := (Int32.ofNat p)) (fp := fp2) (qm := qm2) t2 d with ⟨T, M, f, g⟩ | ⟨hk3, q, hq, g⟩
    · refine Or.inl ⟨T, M, f, fun H hlen => ?_, fun H hlen => ?_⟩
      · refine FR_st rfl rfl ?_
        refine RT_step (pc2 := 1) rfl (fun _ _ => rfl) ?_
        refine ow_iv0 (l2 := ((1, tcl n lim a1 kd1 pl1 w1 le1 nu1 tk (Int32.ofNat 0) fp1) :: (2, bcl bs) :: [(3, dcl3 P Dn lw cl id gl bo), (4, lng pn), (5, ia ri), (6, ia lf), (7, ia wa), (8, ia fo), (9, lng dn), (10, ia ha), (11, ia pa), (12, ia bl)])) rfl rfl rfl rfl hlen rfl rfl rfl ((x1 _ (ov_hl hlen) (ov_at rfl (ov_lt hlen (by decide))) (ov_at rfl (ov_lt hlen (by decide)))).up (by decide)) rfl ?_
        refine RT_step (pc2 := 5) rfl (fun _ _ => rfl) ?_
        refine RT_step (pc2 := 6) rfl (fun _ _ => rfl) ?_
        refine ow_iv1 (l2 := ((1, tcl n lim a1 kd1 pl1 w1 le1 nu1 tk (Int32.ofNat 0) fp1) :: (2, bcl bs) :: [(3, dcl3 P Dn lw cl id gl bo), (4, lng pn), (5, ia ri), (6, ia lf), (7, ia wa), (8, ia fo), (9, lng dn), (10, ia ha), (11, ia pa), (12, ia bl)])) rfl rfl rfl rfl hlen rfl rfl rfl ((h.1 H hlen).up (by decide)) rfl ?_
        refine RT_step (pc2 := 10) rfl (fun _ _ => rfl) ?_
        refine RT_step (pc2 := 11) rfl (fun _ _ => rfl) ?_
        refine rt_ico rfl ki_m1 ?_
        refine biF_ne rfl (n_m1 (by omega)) ?_
        refine RT_step (pc2 := 18) rfl (fun _ _ => rfl) ?_
        refine ow_iv0 (l2 := ((1, tcl n lim a2 kd2 pl2 w2 le2 nu2 tk (Int32.ofNat 0) fp2) :: (2, bcl bs) :: [(3, dcl3 P Dn lw cl id gl bo), (4, lng pn), (5, ia ri), (6, ia lf), (7, ia wa), (8, ia fo), (9, lng dn), (10, ia ha), (11, ia pa), (12, ia bl)])) rfl rfl rfl rfl hlen rfl rfl rfl ((x2 _ (ov_hl hlen) (ov_at rfl (ov_lt hlen (by decide))) (ov_at rfl (ov_lt hlen (by decide)))).up (by decide)) rfl ?_
        refine RT_step (pc2 := 22) rfl (fun _ _ => rfl) ?_
        refine RT_step (pc2 := 23) rfl (fun _ _ => rfl) ?_
        refine ow_iv1 (l2 := ((1, T) :: (2, bcl bs) :: [(3, dcl3 P Dn lw cl id gl bo), (4, lng pn), (5, ia ri), (6, ia lf), (7, ia wa), (8, ia fo), (9, lng dn), (10, ia ha), (11, ia pa), (12, ia bl)])) rfl rfl rfl rfl hlen rfl rfl rfl ((g.1 H hlen).up (by decide)) rfl ?_
        refine RT_step (pc2 := 27) rfl (fun _ _ => rfl) ?_
        refine RT_step (pc2 := 28) rfl (fun _ _ => rfl) ?_
        refine rt_ico rfl ki_m1 ?_
        refine biT_ne rfl rfl ?_
        refine rt_ico rfl ki_m1 ?_
        exact ow_irt rfl rfl rfl
      · refine FR_st rfl rfl ?_
        refine RT_step (pc2 := 1) rfl (fun _ _ => rfl) ?_
        refine ow_iv0 (l2 := ((180, mcl (Int32.ofNat 0) (Int32.ofNat 0) n lim a1 pl1 (km kd1) nm1 sg1 (Int32.ofNat 0) qm1 wd1 td (pof pr)) :: (181, mtl ts) :: [(183, ia rd), (188, lng rn), (191, zb on)])) rfl rfl rfl rfl hlen rfl rfl rfl ((m1 _ (ov_hl hlen) (ov_at rfl (ov_lt hlen (by decide))) (ov_at rfl (ov_lt hlen (by decide)))).up (by decide)) rfl ?_
        refine RT_step (pc2 := 5) rfl (fun _ _ => rfl) ?_
        refine ow_iv1 (l2 := ((180, mcl (Int32.ofNat 0) (Int32.ofNat 0) n lim a1 pl1 (km kd1) nm1 sg1 (Int32.ofNat 0) qm1 wd1 (Int32.ofNat p) (pof pr)) :: (181, mtl ts) :: [(183, ia rd), (188, lng rn), (191, zb on)])) rfl rfl rfl rfl hlen rfl rfl rfl ((h.2 H hlen).up (by decide)) rfl ?_
        refine bcF_ne rfl (by decide) ?_
        refine RT_step (pc2 := 14) rfl (fun _ _ => rfl) ?_
        refine ow_gf rfl rfl rfl hlen rfl ?_
        refine RT_step (pc2 := 18) rfl (fun _ _ => rfl) ?_
        refine RT_step (pc2 := 19) rfl (fun _ _ => rfl) ?_
        refine ow_iv0 (l2 := ((180, mcl (Int32.ofNat 0) (Int32.ofNat 0) n lim a2 pl2 (km kd2) nm2 sg2 (Int32.ofNat 0) qm2 wd2 (Int32.ofNat p) (pof pr)) :: (181, mtl ts) :: [(183, ia rd), (188, lng rn), (191, zb on)])) rfl rfl rfl rfl hlen rfl rfl rfl ((m2 _ (ov_hl hlen) (ov_at rfl (ov_lt hlen (by decide))) (ov_at rfl (ov_lt hlen (by decide)))).up (by decide)) rfl ?_
        refine RT_step (pc2 := 23) rfl (fun _ _ => rfl) ?_
        refine ow_iv1 (l2 := ((180, M) :: (181, mtl ts) :: [(183, ia rd), (188, lng rn), (191, zb on)])) rfl rfl rfl rfl hlen rfl rfl rfl ((g.2 H hlen).up (by decide)) rfl ?_
        refine bcT_ne rfl rfl ?_
        refine rt_ico rfl ki_m1 ?_
        exact ow_irt rfl rfl rfl
    · by_cases e : p = q
      · obtain ⟨T, M, f, hx, hm⟩ := s_ref (bs := bs) (ts := ts) (lim := lim) (po := pof pr) (pl := pl2) (tk := tk) (td := (Int32.ofNat q)) (fp := fp2) (plM := qm2) t2 (kk := 3) (by decide) (by decide) (Or.inl (by omega))
        refine Or.inl ⟨T, M, f, fun H hlen => ?_, fun H hlen => ?_⟩
        · refine FR_st rfl rfl ?_
          refine RT_step (pc2 := 1) rfl (fun _ _ => rfl) ?_
          refine ow_iv0 (l2 := ((1, tcl n lim a1 kd1 pl1 w1 le1 nu1 tk (Int32.ofNat 0) fp1) :: (2, bcl bs) :: [(3, dcl3 P Dn lw cl id gl bo), (4, lng pn), (5, ia ri), (6, ia lf), (7, ia wa), (8, ia fo), (9, lng dn), (10, ia ha), (11, ia pa), (12, ia bl)])) rfl rfl rfl rfl hlen rfl rfl rfl ((x1 _ (ov_hl hlen) (ov_at rfl (ov_lt hlen (by decide))) (ov_at rfl (ov_lt hlen (by decide)))).up (by decide)) rfl ?_
          refine RT_step (pc2 := 5) rfl (fun _ _ => rfl) ?_
          refine RT_step (pc2 := 6) rfl (fun _ _ => rfl) ?_
          refine ow_iv1 (l2 := ((1, tcl n lim a1 kd1 pl1 w1 le1 nu1 tk (Int32.ofNat 0) fp1) :: (2, bcl bs) :: [(3, dcl3 P Dn lw cl id gl bo), (4, lng pn), (5, ia ri), (6, ia lf), (7, ia wa), (8, ia fo), (9, lng dn), (10, ia ha), (11, ia pa), (12, ia bl)])) rfl rfl rfl rfl hlen rfl rfl rfl ((h.1 H hlen).up (by decide)) rfl ?_
          refine RT_step (pc2 := 10) rfl (fun _ _ => rfl) ?_
          refine RT_step (pc2 := 11) rfl (fun _ _ => rfl) ?_
          refine rt_ico rfl ki_m1 ?_
          refine biF_ne rfl (n_m1 (by omega)) ?_
          refine RT_step (pc2 := 18) rfl (fun _ _ => rfl) ?_
          refine ow_iv0 (l2 := ((1, tcl n lim a2 kd2 pl2 w2 le2 nu2 tk (Int32.ofNat 0) fp2) :: (2, bcl bs) :: [(3, dcl3 P Dn lw cl id gl bo), (4, lng pn), (5, ia ri), (6, ia lf), (7, ia wa), (8, ia fo), (9, lng dn), (10, ia ha), (11, ia pa), (12, ia bl)])) rfl rfl rfl rfl hlen rfl rfl rfl ((x2 _ (ov_hl hlen) (ov_at rfl (ov_lt hlen (by decide))) (ov_at rfl (ov_lt hlen (by decide)))).up (by decide)) rfl ?_
          refine RT_step (pc2 := 22) rfl (fun _ _ => rfl) ?_
          refine RT_step (pc2 := 23) rfl (fun _ _ => rfl) ?_
          refine ow_iv1 (l2 := ((1, tcl n lim a2 kd2 pl2 w2 le2 nu2 tk (Int32.ofNat 0) fp2) :: (2, bcl bs) :: [(3, dcl3 P Dn lw cl id gl bo), (4, lng pn), (5, ia ri), (6, ia lf), (7, ia wa), (8, ia fo), (9, lng dn), (10, ia ha), (11, ia pa), (12, ia bl)])) rfl rfl rfl rfl hlen rfl rfl rfl ((g.1 H hlen).up (by decide)) rfl ?_
          refine RT_step (pc2 := 27) rfl (fun _ _ => rfl) ?_
          refine RT_step (pc2 := 28) rfl (fun _ _ => rfl) ?_
          refine rt_ico rfl ki_m1 ?_
          refine biF_ne rfl (n_m1 (by omega)) ?_
          refine RT_step (pc2 := 35) rfl (fun _ _ => rfl) ?_
          refine RT_step (pc2 := 36) rfl (fun _ _ => rfl) ?_
          refine biT_ne rfl (n_eq e) ?_
          refine RT_step (pc2 := 40) rfl (fun _ _ => rfl) ?_
          refine rt_ico rfl ki_3 ?_
          refine ow_iv1 (l2 := ((1, T) :: (2, bcl bs) :: [(3, dcl3 P Dn lw cl id gl bo), (4, lng pn), (5, ia ri), (6, ia lf), (7, ia wa), (8, ia fo), (9, lng dn), (10, ia ha), (11, ia pa), (12, ia bl)])) rfl rfl rfl rfl hlen rfl rfl rfl ((hx _ (ov_hl hlen) (ov_at rfl (ov_lt hlen (by decide))) (ov_at rfl (ov_lt hlen (by decide)))).up (by decide)) rfl ?_
          refine RT_step (pc2 := 45) rfl (fun _ _ => rfl) ?_
          refine rt_ico rfl ki_m1 ?_
          exact ow_irt rfl rfl rfl
        · refine FR_st rfl rfl ?_
          refine RT_step (pc2 := 1) rfl (fun _ _ => rfl) ?_
          refine ow_iv0 (l2 := ((180, mcl (Int32.ofNat 0) (Int32.ofNat 0) n lim a1 pl1 (km kd1) nm1 sg1 (Int32.ofNat 0) qm1 wd1 td (pof pr)) :: (181, mtl ts) :: [(183, ia rd), (188, lng rn), (191, zb on)])) rfl rfl rfl rfl hlen rfl rfl rfl ((m1 _ (ov_hl hlen) (ov_at rfl (ov_lt hlen (by decide))) (ov_at rfl (ov_lt hlen (by decide)))).up (by decide)) rfl ?_
          refine RT_step (pc2 := 5) rfl (fun _ _ => rfl) ?_
          refine ow_iv1 (l2 := ((180, mcl (Int32.ofNat 0) (Int32.ofNat 0) n lim a1 pl1 (km kd1) nm1 sg1 (Int32.ofNat 0) qm1 wd1 (Int32.ofNat p) (pof pr)) :: (181, mtl ts) :: [(183, ia rd), (188, lng rn), (191, zb on)])) rfl rfl rfl rfl hlen rfl rfl rfl ((h.2 H hlen).up (by decide)) rfl ?_
          refine bcF_ne rfl (by decide) ?_
          refine RT_step (pc2 := 14) rfl (fun _ _ => rfl) ?_
          refine ow_gf rfl rfl rfl hlen rfl ?_
          refine RT_step (pc2 := 18) rfl (fun _ _ => rfl) ?_
          refine RT_step (pc2 := 19) rfl (fun _ _ => rfl) ?_
          refine ow_iv0 (l2 := ((180, mcl (Int32.ofNat 0) (Int32.ofNat 0) n lim a2 pl2 (km kd2) nm2 sg2 (Int32.ofNat 0) qm2 wd2 (Int32.ofNat p) (pof pr)) :: (181, mtl ts) :: [(183, ia rd), (188, lng rn), (191, zb on)])) rfl rfl rfl rfl hlen rfl rfl rfl ((m2 _ (ov_hl hlen) (ov_at rfl (ov_lt hlen (by decide))) (ov_at rfl (ov_lt hlen (by decide)))).up (by decide)) rfl ?_
          refine RT_step (pc2 := 23) rfl (fun _ _ => rfl) ?_
          refine ow_iv1 (l2 := ((180, mcl (Int32.ofNat 0) (Int32.ofNat 0) n lim a2 pl2 (km kd2) nm2 sg2 (Int32.ofNat 0) qm2 wd2 (Int32.ofNat q) (pof pr)) :: (181, mtl ts) :: [(183, ia rd), (188, lng rn), (191, zb on)])) rfl rfl rfl rfl hlen rfl rfl rfl ((g.2 H hlen).up (by decide)) rfl ?_
          refine bcF_ne rfl (by decide) ?_
          refine RT_step (pc2 := 32) rfl (fun _ _ => rfl) ?_
          refine ow_gf rfl rfl rfl hlen rfl ?_
          refine RT_step (pc2 := 36) rfl (fun _ _ => rfl) ?_
          refine biT_eq rfl (n_eq e.symm) ?_
          refine RT_step (pc2 := 42) rfl (fun _ _ => rfl) ?_
          refine rt_ico rfl ki_3 ?_
          refine ow_iv1 (l2 := ((180, M) :: (181, mtl ts) :: [(183, ia rd), (188, lng rn), (191, zb on)])) rfl rfl rfl rfl hlen rfl rfl rfl ((hm _ (ov_hl hlen) (ov_at rfl (ov_lt hlen (by decide))) (ov_at rfl (ov_lt hlen (by decide)))).up (by decide)) rfl ?_
          refine RT_step (pc2 := 47) rfl (fun _ _ => rfl) ?_
          refine rt_ico rfl ki_m1 ?_
          exact ow_irt rfl rfl rfl
      · refine Or.inr ⟨p, q, _, _, hp, hq, e, ⟨a2, kd2, pl2, w2, le2, nu2, fp2, nm2, sg2, qm2, wd2, rfl, rfl, t2, hk3⟩, fun H hlen => ?_, fun H hlen => ?_⟩
        · refine FR_st rfl rfl ?_
          refine RT_step (pc2 := 1) rfl (fun _ _ => rfl) ?_
          refine ow_iv0 (l2 := ((1, tcl n lim a1 kd1 pl1 w1 le1 nu1 tk (Int32.ofNat 0) fp1) :: (2, bcl bs) :: [(3, dcl3 P Dn lw cl id gl bo), (4, lng pn), (5, ia ri), (6, ia lf), (7, ia wa), (8, ia fo), (9, lng dn), (10, ia ha), (11, ia pa), (12, ia bl)])) rfl rfl rfl rfl hlen rfl rfl rfl ((x1 _ (ov_hl hlen) (ov_at rfl (ov_lt hlen (by decide))) (ov_at rfl (ov_lt hlen (by decide)))).up (by decide)) rfl ?_
          refine RT_step (pc2 := 5) rfl (fun _ _ => rfl) ?_
          refine RT_step (pc2 := 6) rfl (fun _ _ => rfl) ?_
          refine ow_iv1 (l2 := ((1, tcl n lim a1 kd1 pl1 w1 le1 nu1 tk (Int32.ofNat 0) fp1) :: (2, bcl bs) :: [(3, dcl3 P Dn lw cl id gl bo), (4, lng pn), (5, ia ri), (6, ia lf), (7, ia wa), (8, ia fo), (9, lng dn), (10, ia ha), (11, ia pa), (12, ia bl)])) rfl rfl rfl rfl hlen rfl rfl rfl ((h.1 H hlen).up (by decide)) rfl ?_
          refine RT_step (pc2 := 10) rfl (fun _ _ => rfl) ?_
          refine RT_step (pc2 := 11) rfl (fun _ _ => rfl) ?_
          refine rt_ico rfl ki_m1 ?_
          refine biF_ne rfl (n_m1 (by omega)) ?_
          refine RT_step (pc2 := 18) rfl (fun _ _ => rfl) ?_
          refine ow_iv0 (l2 := ((1, tcl n lim a2 kd2 pl2 w2 le2 nu2 tk (Int32.ofNat 0) fp2) :: (2, bcl bs) :: [(3, dcl3 P Dn lw cl id gl bo), (4, lng pn), (5, ia ri), (6, ia lf), (7, ia wa), (8, ia fo), (9, lng dn), (10, ia ha), (11, ia pa), (12, ia bl)])) rfl rfl rfl rfl hlen rfl rfl rfl ((x2 _ (ov_hl hlen) (ov_at rfl (ov_lt hlen (by decide))) (ov_at rfl (ov_lt hlen (by decide)))).up (by decide)) rfl ?_
          refine RT_step (pc2 := 22) rfl (fun _ _ => rfl) ?_
          refine RT_step (pc2 := 23) rfl (fun _ _ => rfl) ?_
          refine ow_iv1 (l2 := ((1, tcl n lim a2 kd2 pl2 w2 le2 nu2 tk (Int32.ofNat 0) fp2) :: (2, bcl bs) :: [(3, dcl3 P Dn lw cl id gl bo), (4, lng pn), (5, ia ri), (6, ia lf), (7, ia wa), (8, ia fo), (9, lng dn), (10, ia ha), (11, ia pa), (12, ia bl)])) rfl rfl rfl rfl hlen rfl rfl rfl ((g.1 H hlen).up (by decide)) rfl ?_
          refine RT_step (pc2 := 27) rfl (fun _ _ => rfl) ?_
          refine RT_step (pc2 := 28) rfl (fun _ _ => rfl) ?_
          refine rt_ico rfl ki_m1 ?_
          refine biF_ne rfl (n_m1 (by omega)) ?_
          refine RT_step (pc2 := 35) rfl (fun _ _ => rfl) ?_
          refine RT_step (pc2 := 36) rfl (fun _ _ => rfl) ?_
          refine biF_ne rfl (n_ne e (by omega) (by omega)) ?_
          refine RT_step (pc2 := 48) rfl (fun _ _ => rfl) ?_
          refine rt_bip rfl k8_7 ?_
          refine ba_imul rfl ?_
          refine RT_step (pc2 := 52) rfl (fun _ _ => rfl) ?_
          refine ba_iadd rfl ?_
          rw [ix_k]
          exact ow_irt rfl rfl rfl
        · refine FR_st rfl rfl ?_
          refine RT_step (pc2 := 1) rfl (fun _ _ => rfl) ?_
          refine ow_iv0 (l2 := ((180, mcl (Int32.ofNat 0) (Int32.ofNat 0) n lim a1 pl1 (km kd1) nm1 sg1 (Int32.ofNat 0) qm1 wd1 td (pof pr)) :: (181, mtl ts) :: [(183, ia rd), (188, lng rn), (191, zb on)])) rfl rfl rfl rfl hlen rfl rfl rfl ((m1 _ (ov_hl hlen) (ov_at rfl (ov_lt hlen (by decide))) (ov_at rfl (ov_lt hlen (by decide)))).up (by decide)) rfl ?_
          refine RT_step (pc2 := 5) rfl (fun _ _ => rfl) ?_
          refine ow_iv1 (l2 := ((180, mcl (Int32.ofNat 0) (Int32.ofNat 0) n lim a1 pl1 (km kd1) nm1 sg1 (Int32.ofNat 0) qm1 wd1 (Int32.ofNat p) (pof pr)) :: (181, mtl ts) :: [(183, ia rd), (188, lng rn), (191, zb on)])) rfl rfl rfl rfl hlen rfl rfl rfl ((h.2 H hlen).up (by decide)) rfl ?_
          refine bcF_ne rfl (by decide) ?_
          refine RT_step (pc2 := 14) rfl (fun _ _ => rfl) ?_
          refine ow_gf rfl rfl rfl hlen rfl ?_
          refine RT_step (pc2 := 18) rfl (fun _ _ => rfl) ?_
          refine RT_step (pc2 := 19) rfl (fun _ _ => rfl) ?_
          refine ow_iv0 (l2 := ((180, mcl (Int32.ofNat 0) (Int32.ofNat 0) n lim a2 pl2 (km kd2) nm2 sg2 (Int32.ofNat 0) qm2 wd2 (Int32.ofNat p) (pof pr)) :: (181, mtl ts) :: [(183, ia rd), (188, lng rn), (191, zb on)])) rfl rfl rfl rfl hlen rfl rfl rfl ((m2 _ (ov_hl hlen) (ov_at rfl (ov_lt hlen (by decide))) (ov_at rfl (ov_lt hlen (by decide)))).up (by decide)) rfl ?_
          refine RT_step (pc2 := 23) rfl (fun _ _ => rfl) ?_
          refine ow_iv1 (l2 := ((180, mcl (Int32.ofNat 0) (Int32.ofNat 0) n lim a2 pl2 (km kd2) nm2 sg2 (Int32.ofNat 0) qm2 wd2 (Int32.ofNat q) (pof pr)) :: (181, mtl ts) :: [(183, ia rd), (188, lng rn), (191, zb on)])) rfl rfl rfl rfl hlen rfl rfl rfl ((g.2 H hlen).up (by decide)) rfl ?_
          refine bcF_ne rfl (by decide) ?_
          refine RT_step (pc2 := 32) rfl (fun _ _ => rfl) ?_
          refine ow_gf rfl rfl rfl hlen rfl ?_
          refine RT_step (pc2 := 36) rfl (fun _ _ => rfl) ?_
          refine biF_eq rfl (n_ne (Ne.symm e) (by omega) (by omega)) ?_
          refine RT_step (pc2 := 40) rfl (fun _ _ => rfl) ?_
          exact ow_irt rfl rfl rfl
