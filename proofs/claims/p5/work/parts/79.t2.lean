/-! ===== DOES and WEDS, both at once ===== -/
theorem b_does3 {B : Nat → Nat} {bs ts : List Int32} {vs : Nat → Value} {bv : Nat → Int32} {n lim : Nat} {k a kd pl w : Nat} {le : Int64} {nu tk td fp nm sg qm : Int32} {wd : Int64} {o : Nat} {u1 u2 u3 u4 nw li : List Int32} {nz : List Int64} {P : Nat} {Dn : Nat} {lw : Int32} {cl : Int32} {id : Int32} {gl : Nat} {bo : Nat} {pn : List Int64} {ri : List Int32} {lf : List Int32} {wa : List Int32} {fo : List Int32} {dn : List Int64} {ha : List Int32} {pa : List Int32} {bl : List Int32} (hB : BY bs B) (hM : MY ts B) (hb : ∀ i, B i < 256) (hn : n ≤ 940) (hl : lim ≤ 940) (t : TF k n a kd w le nu nm sg wd) (hkd : kd ≠ 0) (hk4 : kd ≠ 4) (jv : wjw w 5 8 = 8) (hP : P ≤ 7) (hDn : Dn ≤ 8) (lp : pn.length = 7) (ld : dn.length = 8) (lz : nz.length = 15) (hv : nw[0]? = some (Int32.ofNat P)) (hv1 : nw[1]? = some (Int32.ofNat Dn)) (hN : ∀ i, i < P → ∃ ss, nok ss ∧ pn[i]? = some (p5 ss) ∧ nz[0 + i]? = some (p27 ss)) (hN2 : ∀ i, i < Dn → ∃ ss, nok ss ∧ dn[i]? = some (p5 ss) ∧ nz[7 + i]? = some (p27 ss)) (bx : BX o u1 u2 u3 u4) (ln : li.length = 160) (ho : o < 40) {z : Int32} : (∃ (T M : AE) (li2 : List Int32), FC n lim (posb vs o) T M ∧ li2.length = 160 ∧ LSb 8 53 [.ref 105, .ref 1, .ref 3, .int z] 10 250 [.ref 180, .int (Int32.ofNat (4 * o))] ((1, tcl n lim a kd pl w le nu tk (Int32.ofNat 0) fp) :: (2, bcl bs) :: [(3, dcl3 P Dn lw cl id gl bo), (4, lng pn), (5, ia ri), (6, ia lf), (7, ia wa), (8, ia fo), (9, lng dn), (10, ia ha), (11, ia pa), (12, ia bl), (105, bkc o bv), (106, ia u1), (107, ia u2), (108, ia u3), (109, ia u4)]) ((180, mcl (Int32.ofNat 0) (Int32.ofNat 0) n lim a pl (km kd) nm sg (Int32.ofNat 0) qm wd td (posb vs o)) :: (181, mtl ts) :: [(182, ia nw), (187, lng nz), (200, ia li)]) (.int (Int32.ofNat 0)) (.int (Int32.ofNat 0)) [(1, T)] [(180, M), (200, ia li2)]) ∨ (∃ (k2 : Nat) (tk2 td2 : Int32) (T M : AE) (v1 v2 v3 v4 li2 : List Int32), TC n lim (posb vs o) k2 tk2 td2 T M ∧ BX (o + 1) v1 v2 v3 v4 ∧ li2.length = 160 ∧ LSb 8 53 [.ref 105, .ref 1, .ref 3, .int z] 10 250 [.ref 180, .int (Int32.ofNat (4 * o))] ((1, tcl n lim a kd pl w le nu tk (Int32.ofNat 0) fp) :: (2, bcl bs) :: [(3, dcl3 P Dn lw cl id gl bo), (4, lng pn), (5, ia ri), (6, ia lf), (7, ia wa), (8, ia fo), (9, lng dn), (10, ia ha), (11, ia pa), (12, ia bl), (105, bkc o bv), (106, ia u1), (107, ia u2), (108, ia u3), (109, ia u4)]) ((180, mcl (Int32.ofNat 0) (Int32.ofNat 0) n lim a pl (km kd) nm sg (Int32.ofNat 0) qm wd td (posb vs o)) :: (181, mtl ts) :: [(182, ia nw), (187, lng nz), (200, ia li)]) (.int (Int32.ofNat 1)) (.int (Int32.ofNat 1)) [(1, T), (105, bkc (o + 1) bv), (106, ia v1), (107, ia v2), (108, ia v3), (109, ia v4)] [(180, M), (200, ia li2)]) := by
  obtain ⟨T1, M1, c1, x1, m1⟩ := s_adv hB hM hb hn hl (po := (posb vs o)) (pl := pl) (tk := tk) (td := td) (fp := fp) (plM := qm) t hkd hk4
  obtain ⟨a1, kd1, pl1, w1, le1, nu1, fp1, nm1, sg1, qm1, wd1, rfl, rfl, t1⟩ := c1
  have hw1 := t1.2.2.2.2.1
  by_cases c1 : w1 = 1
  · have hk11 := w_k1 t1 (by omega)
    obtain ⟨rs1, r1, r2, r3, r4, r5, r6⟩ := t1.2.2.2.2.2.1 hk11
    have hr : nok rs1 := ⟨r1, r2, r3⟩
    have hnm1 : (Nat.beq (km kd1) 2 && nmB wd1 30 0) = true := by rw [w_nm t1, c1]; rfl
    have q1 := nm_eq hr hN2
    rw [← r4, ← r5] at q1
    clear r1 r2 r3 r4 r5 r6 hr
    cases e1 : fd dn le1 0 Dn 0 with
    | some j1 =>
      have g1 := q1.symm.trans e1
      have hj1 := (fd_lt e1).2
      obtain ⟨T2, M2, c2, x2, m2⟩ := s_adv hB hM hb hn hl (po := (posb vs o)) (pl := pl1) (tk := tk) (td := (Int32.ofNat j1)) (fp := fp1) (plM := qm1) t1 (by omega) (by omega)
      obtain ⟨a2, kd2, pl2, w2, le2, nu2, fp2, nm2, sg2, qm2, wd2, rfl, rfl, t2⟩ := c2
      have hw2 := t2.2.2.2.2.1
      rcases hd_cases w2 hw2 with ⟨jh, sh⟩ | ⟨jh, ch⟩ | ⟨jh, ch⟩ | ⟨jh, ch⟩
      · obtain ⟨T, M, f, hx, hm⟩ := s_ref (bs := bs) (ts := ts) (lim := lim) (po := (posb vs o)) (pl := pl2) (tk := tk) (td := (Int32.ofNat j1)) (fp := fp2) (plM := qm2) t2 (kk := 1) (by decide) (by decide) (Or.inr rfl)
        obtain ⟨a9, kd9, pl9, w9, le9, nu9, tk9, kk9, am9, fm9, kM9, nm9, sg9, fa9, qm9, wd9, td9, rfl, rfl, f9⟩ := f
        refine Or.inl ⟨tcl n lim a9 kd9 pl9 w9 le9 nu9 tk9 (Int32.ofNat kk9) (Int32.ofNat pl9), mcl (Int32.ofNat 0) (Int32.ofNat 0) n lim am9 fm9 kM9 nm9 sg9 fa9 qm9 wd9 td9 (posb vs o), ((li.set (4 * o) (Int32.ofNat 0)).set (4 * o + 2) (Int32.ofNat j1)), ⟨a9, kd9, pl9, w9, le9, nu9, tk9, kk9, am9, fm9, kM9, nm9, sg9, fa9, qm9, wd9, td9, rfl, rfl, f9⟩, by simp only [List.length_set]; exact ln, fun H hlen => ?_, fun H hlen => ?_⟩
        · have hz : FR 2 71 [.ref 1, .ref 9, .int (Int32.ofNat Dn)] (ov H ((1, tcl n lim a1 kd1 pl1 w1 le1 nu1 tk (Int32.ofNat 0) fp1) :: (2, bcl bs) :: [(3, dcl3 P Dn lw cl id gl bo), (4, lng pn), (5, ia ri), (6, ia lf), (7, ia wa), (8, ia fo), (9, lng dn), (10, ia ha), (11, ia pa), (12, ia bl), (105, bkc o bv), (106, ia u1), (107, ia u2), (108, ia u3), (109, ia u4)])) (some (.int (Int32.ofNat j1)), ov (ov H ((1, tcl n lim a1 kd1 pl1 w1 le1 nu1 tk (Int32.ofNat 0) fp1) :: (2, bcl bs) :: [(3, dcl3 P Dn lw cl id gl bo), (4, lng pn), (5, ia ri), (6, ia lf), (7, ia wa), (8, ia fo), (9, lng dn), (10, ia ha), (11, ia pa), (12, ia bl), (105, bkc o bv), (106, ia u1), (107, ia u2), (108, ia u3), (109, ia u4)])) [(1, tcl n lim a1 kd1 pl1 w1 le1 nu1 tk (Int32.ofNat 0) fp1)]) := by
            refine FR_st2 (l2 := ((1, tcl n lim a1 kd1 pl1 w1 le1 nu1 tk (Int32.ofNat 0) fp1) :: (2, bcl bs) :: [(3, dcl3 P Dn lw cl id gl bo), (4, lng pn), (5, ia ri), (6, ia lf), (7, ia wa), (8, ia fo), (9, lng dn), (10, ia ha), (11, ia pa), (12, ia bl), (105, bkc o bv), (106, ia u1), (107, ia u2), (108, ia u3), (109, ia u4)])) rfl rfl rfl ?_
            refine RT_step (pc2 := 1) rfl (fun _ _ => rfl) ?_
            refine ow_gf rfl rfl rfl hlen rfl ?_
            refine RT_step (pc2 := 7) rfl (fun _ _ => rfl) ?_
            refine rt_acE rfl (by omega) (by omega) ?_
            refine RT_if c1 ?_
            refine RT_step (pc2 := 19) rfl (fun _ _ => rfl) ?_
            refine RT_step (pc2 := 20) rfl (fun _ _ => rfl) ?_
            refine RT_step (pc2 := 21) rfl (fun _ _ => rfl) ?_
            refine ow_gf rfl rfl rfl hlen rfl ?_
            refine ow_is1 rfl rfl rfl rfl rfl ((x_find9 (ov_hl hlen) (ov_at rfl (ov_lt hlen (by decide))) (by omega) (by omega)).up (by decide)) rfl ?_
            rw [show fdI (fd dn le1 0 Dn 0) = Int32.ofNat j1 from by rw [e1]; rfl]
            refine RT_step (pc2 := 28) rfl (fun _ _ => rfl) ?_
            refine RT_step (pc2 := 29) rfl (fun _ _ => rfl) ?_
            refine rt_ico rfl ki_m1 ?_
            refine biF_ne rfl (n_m1 (by omega)) ?_
            refine RT_step (pc2 := 40) rfl (fun _ _ => rfl) ?_
            exact ow_irt rfl rfl rfl
          have hy : FR 3 63 [.ref 3, .ref 1] (ov H ((1, tcl n lim a1 kd1 pl1 w1 le1 nu1 tk (Int32.ofNat 0) fp1) :: (2, bcl bs) :: [(3, dcl3 P Dn lw cl id gl bo), (4, lng pn), (5, ia ri), (6, ia lf), (7, ia wa), (8, ia fo), (9, lng dn), (10, ia ha), (11, ia pa), (12, ia bl), (105, bkc o bv), (106, ia u1), (107, ia u2), (108, ia u3), (109, ia u4)])) (some (.int (Int32.ofNat j1)), ov (ov H ((1, tcl n lim a1 kd1 pl1 w1 le1 nu1 tk (Int32.ofNat 0) fp1) :: (2, bcl bs) :: [(3, dcl3 P Dn lw cl id gl bo), (4, lng pn), (5, ia ri), (6, ia lf), (7, ia wa), (8, ia fo), (9, lng dn), (10, ia ha), (11, ia pa), (12, ia bl), (105, bkc o bv), (106, ia u1), (107, ia u2), (108, ia u3), (109, ia u4)])) [(1, tcl n lim a1 kd1 pl1 w1 le1 nu1 tk (Int32.ofNat 0) fp1)]) := by
            refine FR_st2 (l2 := ((1, tcl n lim a1 kd1 pl1 w1 le1 nu1 tk (Int32.ofNat 0) fp1) :: (2, bcl bs) :: [(3, dcl3 P Dn lw cl id gl bo), (4, lng pn), (5, ia ri), (6, ia lf), (7, ia wa), (8, ia fo), (9, lng dn), (10, ia ha), (11, ia pa), (12, ia bl), (105, bkc o bv), (106, ia u1), (107, ia u2), (108, ia u3), (109, ia u4)])) rfl rfl rfl ?_
            refine RT_step (pc2 := 1) rfl (fun _ _ => rfl) ?_
            refine RT_step (pc2 := 2) rfl (fun _ _ => rfl) ?_
            refine ow_gf rfl rfl rfl hlen rfl ?_
            refine RT_step (pc2 := 6) rfl (fun _ _ => rfl) ?_
            refine ow_gf rfl rfl rfl hlen rfl ?_
            refine ow_is1 (l2 := ((1, tcl n lim a1 kd1 pl1 w1 le1 nu1 tk (Int32.ofNat 0) fp1) :: (2, bcl bs) :: [(3, dcl3 P Dn lw cl id gl bo), (4, lng pn), (5, ia ri), (6, ia lf), (7, ia wa), (8, ia fo), (9, lng dn), (10, ia ha), (11, ia pa), (12, ia bl), (105, bkc o bv), (106, ia u1), (107, ia u2), (108, ia u3), (109, ia u4)])) rfl rfl rfl rfl rfl (hz.up (by decide)) rfl ?_
            exact ow_irt rfl rfl rfl
          refine FR_st2 (l2 := ((1, tcl n lim a9 kd9 pl9 w9 le9 nu9 tk9 (Int32.ofNat kk9) (Int32.ofNat pl9)) :: (2, bcl bs) :: [(3, dcl3 P Dn lw cl id gl bo), (4, lng pn), (5, ia ri), (6, ia lf), (7, ia wa), (8, ia fo), (9, lng dn), (10, ia ha), (11, ia pa), (12, ia bl), (105, bkc o bv), (106, ia u1), (107, ia u2), (108, ia u3), (109, ia u4)])) rfl rfl rfl ?_
          refine RT_step (pc2 := 1) rfl (fun _ _ => rfl) ?_
          refine ow_iv0 (l2 := ((1, tcl n lim a1 kd1 pl1 w1 le1 nu1 tk (Int32.ofNat 0) fp1) :: (2, bcl bs) :: [(3, dcl3 P Dn lw cl id gl bo), (4, lng pn), (5, ia ri), (6, ia lf), (7, ia wa), (8, ia fo), (9, lng dn), (10, ia ha), (11, ia pa), (12, ia bl), (105, bkc o bv), (106, ia u1), (107, ia u2), (108, ia u3), (109, ia u4)])) rfl rfl rfl rfl hlen rfl rfl rfl ((x1 _ (ov_hl hlen) (ov_at rfl (ov_lt hlen (by decide))) (ov_at rfl (ov_lt hlen (by decide)))).up (by decide)) rfl ?_
          refine RT_step (pc2 := 5) rfl (fun _ _ => rfl) ?_
          refine RT_step (pc2 := 6) rfl (fun _ _ => rfl) ?_
          refine ow_iv1 (l2 := ((1, tcl n lim a1 kd1 pl1 w1 le1 nu1 tk (Int32.ofNat 0) fp1) :: (2, bcl bs) :: [(3, dcl3 P Dn lw cl id gl bo), (4, lng pn), (5, ia ri), (6, ia lf), (7, ia wa), (8, ia fo), (9, lng dn), (10, ia ha), (11, ia pa), (12, ia bl), (105, bkc o bv), (106, ia u1), (107, ia u2), (108, ia u3), (109, ia u4)])) rfl rfl rfl rfl hlen rfl rfl rfl (hy.up (by decide)) rfl ?_
          refine RT_step (pc2 := 11) rfl (fun _ _ => rfl) ?_
          refine RT_step (pc2 := 13) rfl (fun _ _ => rfl) ?_
          refine rt_ico rfl ki_m1 ?_
          refine biF_ne rfl (n_m1 (by omega)) ?_
          refine RT_step (pc2 := 20) rfl (fun _ _ => rfl) ?_
          refine ow_iv0 (l2 := ((1, tcl n lim a2 kd2 pl2 w2 le2 nu2 tk (Int32.ofNat 0) fp2) :: (2, bcl bs) :: [(3, dcl3 P Dn lw cl id gl bo), (4, lng pn), (5, ia ri), (6, ia lf), (7, ia wa), (8, ia fo), (9, lng dn), (10, ia ha), (11, ia pa), (12, ia bl), (105, bkc o bv), (106, ia u1), (107, ia u2), (108, ia u3), (109, ia u4)])) rfl rfl rfl rfl hlen rfl rfl rfl ((x2 _ (ov_hl hlen) (ov_at rfl (ov_lt hlen (by decide))) (ov_at rfl (ov_lt hlen (by decide)))).up (by decide)) rfl ?_
          refine RT_step (pc2 := 26) rfl (fun _ _ => rfl) ?_
          refine RT_step (pc2 := 27) rfl (fun _ _ => rfl) ?_
          refine ow_gf rfl rfl rfl hlen rfl ?_
          refine rt_ord rfl hw2 rfl ?_
          refine rt_isw rfl (sw_rd hw2) ?_
          refine rt_tsD (t := 96) rfl sh rfl ?_
          refine RT_step (pc2 := 97) rfl (fun _ _ => rfl) ?_
          refine rt_ico rfl ki_1 ?_
          refine ow_iv1 (l2 := ((1, tcl n lim a9 kd9 pl9 w9 le9 nu9 tk9 (Int32.ofNat kk9) (Int32.ofNat pl9)) :: (2, bcl bs) :: [(3, dcl3 P Dn lw cl id gl bo), (4, lng pn), (5, ia ri), (6, ia lf), (7, ia wa), (8, ia fo), (9, lng dn), (10, ia ha), (11, ia pa), (12, ia bl), (105, bkc o bv), (106, ia u1), (107, ia u2), (108, ia u3), (109, ia u4)])) rfl rfl rfl rfl hlen rfl rfl rfl ((hx _ (ov_hl hlen) (ov_at rfl (ov_lt hlen (by decide))) (ov_at rfl (ov_lt hlen (by decide)))).up (by decide)) rfl ?_
          exact ow_irt rfl rfl rfl
        · have hm2 : FR 6 257 [.ref 180, .int (Int32.ofNat 7), .int (Int32.ofNat Dn)] (ov H ((180, mcl (Int32.ofNat 0) (Int32.ofNat 0) n lim a1 pl1 (km kd1) nm1 sg1 (Int32.ofNat 0) qm1 wd1 td (posb vs o)) :: (181, mtl ts) :: [(182, ia nw), (187, lng nz), (200, ia (li.set (4 * o) (Int32.ofNat 0)))])) (some (.int (Int32.ofNat 1)), ov (ov H ((180, mcl (Int32.ofNat 0) (Int32.ofNat 0) n lim a1 pl1 (km kd1) nm1 sg1 (Int32.ofNat 0) qm1 wd1 td (posb vs o)) :: (181, mtl ts) :: [(182, ia nw), (187, lng nz), (200, ia (li.set (4 * o) (Int32.ofNat 0)))])) [(180, mcl (Int32.ofNat 0) (Int32.ofNat 0) n lim a2 pl2 (km kd2) nm2 sg2 (Int32.ofNat 0) qm2 wd2 (Int32.ofNat j1) (posb vs o))]) := by
            refine FR_st2 (l2 := ((180, mcl (Int32.ofNat 0) (Int32.ofNat 0) n lim a2 pl2 (km kd2) nm2 sg2 (Int32.ofNat 0) qm2 wd2 (Int32.ofNat j1) (posb vs o)) :: (181, mtl ts) :: [(182, ia nw), (187, lng nz), (200, ia (li.set (4 * o) (Int32.ofNat 0)))])) rfl rfl rfl ?_
            refine RT_step (pc2 := 1) rfl (fun _ _ => rfl) ?_
            refine ow_iv1 rfl rfl rfl rfl hlen rfl rfl rfl ((m_isName (ov_hl hlen) (ov_at rfl (ov_lt hlen (by decide))) (km_is kd1 t1.2.2.2.1).2.2.2.2.2).up (by omega)) rfl ?_
            refine bcF_ne rfl (b01_t hnm1) ?_
            refine RT_step (pc2 := 14) rfl (fun _ _ => rfl) ?_
            refine RT_step (pc2 := 15) rfl (fun _ _ => rfl) ?_
            refine ow_gf rfl rfl rfl hlen rfl ?_
            refine RT_step (pc2 := 19) rfl (fun _ _ => rfl) ?_
            refine RT_step (pc2 := 20) rfl (fun _ _ => rfl) ?_
            refine RT_step (pc2 := 21) rfl (fun _ _ => rfl) ?_
            refine ow_gf rfl rfl rfl hlen rfl ?_
            refine ow_is1 rfl rfl rfl rfl rfl ((m_find7 (bs0 := 7) (cnt := Dn) (ov_hl hlen) (ov_at rfl (ov_lt hlen (by decide))) (by omega) (by omega)).up (by omega)) rfl ?_
            rw [show fdI (fd nz wd1 7 Dn 0) = Int32.ofNat j1 from by rw [g1]; rfl]
            refine ow_pf (l2 := ((180, mcl (Int32.ofNat 0) (Int32.ofNat 0) n lim a1 pl1 (km kd1) nm1 sg1 (Int32.ofNat 0) qm1 wd1 (Int32.ofNat j1) (posb vs o)) :: (181, mtl ts) :: [(182, ia nw), (187, lng nz), (200, ia (li.set (4 * o) (Int32.ofNat 0)))])) rfl rfl rfl rfl rfl hlen rfl rfl ?_
            refine RT_step (pc2 := 31) rfl (fun _ _ => rfl) ?_
            refine ow_gf rfl rfl rfl hlen rfl ?_
            refine rt_ico rfl ki_m1 ?_
            refine biF_ne rfl (n_m1 (by omega)) ?_
            refine RT_step (pc2 := 45) rfl (fun _ _ => rfl) ?_
            refine ow_iv0 (l2 := ((180, mcl (Int32.ofNat 0) (Int32.ofNat 0) n lim a2 pl2 (km kd2) nm2 sg2 (Int32.ofNat 0) qm2 wd2 (Int32.ofNat j1) (posb vs o)) :: (181, mtl ts) :: [(182, ia nw), (187, lng nz), (200, ia (li.set (4 * o) (Int32.ofNat 0)))])) rfl rfl rfl rfl hlen rfl rfl rfl ((m2 _ (ov_hl hlen) (ov_at rfl (ov_lt hlen (by decide))) (ov_at rfl (ov_lt hlen (by decide)))).up (by omega)) rfl ?_
            refine rt_ico rfl ki_1 ?_
            exact ow_irt rfl rfl rfl
          have hm3 : FR 6 255 [.ref 180] (ov H ((180, mcl (Int32.ofNat 0) (Int32.ofNat 0) n lim a2 pl2 (km kd2) nm2 sg2 (Int32.ofNat 0) qm2 wd2 (Int32.ofNat j1) (posb vs o)) :: (181, mtl ts) :: [(182, ia nw), (187, lng nz), (200, ia ((li.set (4 * o) (Int32.ofNat 0)).set (4 * o + 2) (Int32.ofNat j1)))])) (some (.int (Int32.ofNat 0)), ov (ov H ((180, mcl (Int32.ofNat 0) (Int32.ofNat 0) n lim a2 pl2 (km kd2) nm2 sg2 (Int32.ofNat 0) qm2 wd2 (Int32.ofNat j1) (posb vs o)) :: (181, mtl ts) :: [(182, ia nw), (187, lng nz), (200, ia ((li.set (4 * o) (Int32.ofNat 0)).set (4 * o + 2) (Int32.ofNat j1)))])) [(180, mcl (Int32.ofNat 0) (Int32.ofNat 0) n lim am9 fm9 kM9 nm9 sg9 fa9 qm9 wd9 td9 (posb vs o))]) := by
            refine FR_st2 (l2 := ((180, mcl (Int32.ofNat 0) (Int32.ofNat 0) n lim am9 fm9 kM9 nm9 sg9 fa9 qm9 wd9 td9 (posb vs o)) :: (181, mtl ts) :: [(182, ia nw), (187, lng nz), (200, ia ((li.set (4 * o) (Int32.ofNat 0)).set (4 * o + 2) (Int32.ofNat j1)))])) rfl rfl rfl ?_
            refine rt_bip rfl k8_13 ?_
            refine RT_step (pc2 := 3) rfl (fun _ _ => rfl) ?_
            refine m_hl hlen (km_is kd2 t2.2.2.2.1).2.2.2.2.2 3 13 _ rfl rfl rfl (fun L2 l0 lw => ?_)
            rw [wj_le t2 3 13 (by decide), jh] at lw
            refine rt_ild rfl lw ?_
            refine rt_bip rfl k8_15 ?_
            refine biF_le rfl (n_nle (by decide) (by decide)) ?_
            refine rt_ald rfl l0 ?_
            refine rt_ico rfl ki_1 ?_
            refine ow_iv1 (l2 := ((180, mcl (Int32.ofNat 0) (Int32.ofNat 0) n lim am9 fm9 kM9 nm9 sg9 fa9 qm9 wd9 td9 (posb vs o)) :: (181, mtl ts) :: [(182, ia nw), (187, lng nz), (200, ia ((li.set (4 * o) (Int32.ofNat 0)).set (4 * o + 2) (Int32.ofNat j1)))])) rfl rfl rfl rfl hlen rfl rfl rfl ((hm _ (ov_hl hlen) (ov_at rfl (ov_lt hlen (by decide))) (ov_at rfl (ov_lt hlen (by decide)))).up (by omega)) rfl ?_
            exact ow_irt rfl rfl rfl
          refine FR_st2 (l2 := ((180, mcl (Int32.ofNat 0) (Int32.ofNat 0) n lim am9 fm9 kM9 nm9 sg9 fa9 qm9 wd9 td9 (posb vs o)) :: (181, mtl ts) :: [(182, ia nw), (187, lng nz), (200, ia ((li.set (4 * o) (Int32.ofNat 0)).set (4 * o + 2) (Int32.ofNat j1)))])) rfl rfl rfl ?_
          refine rt_bip rfl k8_8 ?_
          refine RT_step (pc2 := 3) rfl (fun _ _ => rfl) ?_
          refine m_vl (z := Int32.ofNat (4 * o)) hlen (km_is kd t.2.2.2.1).2.2.2.2.2 5 8 _ rfl rfl rfl rfl (fun L2 l0 l1 lw => ?_)
          rw [wj_le t 5 8 (by decide), jv] at lw
          refine rt_ild rfl lw ?_
          refine rt_bip rfl k8_12 ?_
          refine biT_le rfl (n_le (by decide) (by decide)) ?_
          refine rt_ald rfl l0 ?_
          refine ow_gf rfl rfl rfl hlen rfl ?_
          refine rt_ild rfl l1 ?_
          refine rt_ild rfl lw ?_
          refine rt_bip rfl k8_8 ?_
          refine ba_isub rfl ?_
          rw [show Int32.ofNat 8 - Int32.ofNat 8 = Int32.ofNat 0 from rfl]
          refine ow_iasN (l2 := ((180, mcl (Int32.ofNat 0) (Int32.ofNat 0) n lim a pl (km kd) nm sg (Int32.ofNat 0) qm wd td (posb vs o)) :: (181, mtl ts) :: [(182, ia nw), (187, lng nz), (200, ia (li.set (4 * o) (Int32.ofNat 0)))])) rfl rfl (by omega) (by omega) hlen rfl rfl ?_
          refine rt_ald rfl l0 ?_
          refine ow_iv0 (l2 := ((180, mcl (Int32.ofNat 0) (Int32.ofNat 0) n lim a1 pl1 (km kd1) nm1 sg1 (Int32.ofNat 0) qm1 wd1 td (posb vs o)) :: (181, mtl ts) :: [(182, ia nw), (187, lng nz), (200, ia (li.set (4 * o) (Int32.ofNat 0)))])) rfl rfl rfl rfl hlen rfl rfl rfl ((m1 _ (ov_hl hlen) (ov_at rfl (ov_lt hlen (by decide))) (ov_at rfl (ov_lt hlen (by decide)))).up (by omega)) rfl ?_
          refine rt_ald rfl l0 ?_
          refine ow_gf rfl rfl rfl hlen rfl ?_
          refine rt_ild rfl l1 ?_
          refine ow_ialN rfl rfl (List.getElem?_set_self (by omega)) (by omega) hlen rfl ?_
          refine RT_step (pc2 := 80) rfl (fun _ _ => rfl) ?_
          refine rt_ald rfl l0 ?_
          refine rt_ild rfl l1 ?_
          refine rt_ico rfl ki_2 ?_
          refine ba_iadd rfl ?_
          rw [n_add]
          refine rt_ald rfl l0 ?_
          refine rt_bip rfl k8_7 ?_
          refine rt_ald rfl l0 ?_
          refine ow_gf rfl rfl rfl hlen rfl ?_
          refine rt_ico rfl ki_1 ?_
          refine ow_ialN rfl rfl hv1 (by omega) hlen rfl ?_
          refine ow_iv1 (l2 := ((180, mcl (Int32.ofNat 0) (Int32.ofNat 0) n lim a2 pl2 (km kd2) nm2 sg2 (Int32.ofNat 0) qm2 wd2 (Int32.ofNat j1) (posb vs o)) :: (181, mtl ts) :: [(182, ia nw), (187, lng nz), (200, ia (li.set (4 * o) (Int32.ofNat 0)))])) rfl rfl rfl rfl hlen rfl rfl rfl (hm2.up (by omega)) rfl ?_
          refine ow_iv1 (l2 := ((180, mcl (Int32.ofNat 0) (Int32.ofNat 0) n lim a2 pl2 (km kd2) nm2 sg2 (Int32.ofNat 0) qm2 wd2 (Int32.ofNat j1) (posb vs o)) :: (181, mtl ts) :: [(182, ia nw), (187, lng nz), (200, ia ((li.set (4 * o) (Int32.ofNat 0)).set (4 * o + 2) (Int32.ofNat j1)))])) rfl rfl rfl rfl hlen rfl rfl rfl ((m_kp1 (ov_hl hlen) (ov_at rfl (ov_lt hlen (by decide))) (ov_at rfl (ov_lt hlen (by decide))) (by (try simp only [List.length_set]); omega) (by omega)).up (by omega)) rfl ?_
          refine bcF_eq rfl (by decide) ?_
          refine rt_ald rfl l0 ?_
          refine rt_ild rfl l1 ?_
          refine rt_ico rfl ki_3 ?_
          refine ba_iadd rfl ?_
          rw [n_add]
          refine rt_ald rfl l0 ?_
          refine ow_iv1 (l2 := ((180, mcl (Int32.ofNat 0) (Int32.ofNat 0) n lim am9 fm9 kM9 nm9 sg9 fa9 qm9 wd9 td9 (posb vs o)) :: (181, mtl ts) :: [(182, ia nw), (187, lng nz), (200, ia ((li.set (4 * o) (Int32.ofNat 0)).set (4 * o + 2) (Int32.ofNat j1)))])) rfl rfl rfl rfl hlen rfl rfl rfl (hm3.up (by omega)) rfl ?_
          refine ow_iv1 (l2 := ((180, mcl (Int32.ofNat 0) (Int32.ofNat 0) n lim am9 fm9 kM9 nm9 sg9 fa9 qm9 wd9 td9 (posb vs o)) :: (181, mtl ts) :: [(182, ia nw), (187, lng nz), (200, ia ((li.set (4 * o) (Int32.ofNat 0)).set (4 * o + 2) (Int32.ofNat j1)))])) rfl rfl rfl rfl hlen rfl rfl rfl (m_kp0.up (by omega)) rfl ?_
          refine bcT_eq rfl rfl ?_
          refine rt_ico rfl ki_0 ?_
          exact ow_irt rfl rfl rfl
      · subst ch
        have hk12 := w_k1 t2 (by decide)
        obtain ⟨T3, M3, c3, x3, m3⟩ := s_adv hB hM hb hn hl (po := (posb vs o)) (pl := pl2) (tk := tk) (td := (Int32.ofNat 0)) (fp := fp2) (plM := qm2) t2 (by omega) (by omega)
        obtain ⟨a3, kd3, pl3, w3, le3, nu3, fp3, nm3, sg3, qm3, wd3, rfl, rfl, t3⟩ := c3
        obtain ⟨v1, v2, v3, v4, bx2, hadd⟩ := bx_add bx ho (Int32.ofNat 0) z (Int32.ofNat j1) (Int32.ofNat 0)
        refine Or.inr ⟨_, tk, (Int32.ofNat 0), tcl n lim a3 kd3 pl3 w3 le3 nu3 tk (Int32.ofNat 0) fp3, mcl (Int32.ofNat 0) (Int32.ofNat 0) n lim a3 pl3 (km kd3) nm3 sg3 (Int32.ofNat 0) qm3 wd3 (Int32.ofNat 0) (posb vs o), v1, v2, v3, v4, (((li.set (4 * o) (Int32.ofNat 0)).set (4 * o + 2) (Int32.ofNat j1)).set (4 * o + 3) (Int32.ofNat 0)), tf_td t3, bx2, by simp only [List.length_set]; exact ln, fun H hlen => ?_, fun H hlen => ?_⟩
        · have hz : FR 2 71 [.ref 1, .ref 9, .int (Int32.ofNat Dn)] (ov H ((1, tcl n lim a1 kd1 pl1 w1 le1 nu1 tk (Int32.ofNat 0) fp1) :: (2, bcl bs) :: [(3, dcl3 P Dn lw cl id gl bo), (4, lng pn), (5, ia ri), (6, ia lf), (7, ia wa), (8, ia fo), (9, lng dn), (10, ia ha), (11, ia pa), (12, ia bl), (105, bkc o bv), (106, ia u1), (107, ia u2), (108, ia u3), (109, ia u4)])) (some (.int (Int32.ofNat j1)), ov (ov H ((1, tcl n lim a1 kd1 pl1 w1 le1 nu1 tk (Int32.ofNat 0) fp1) :: (2, bcl bs) :: [(3, dcl3 P Dn lw cl id gl bo), (4, lng pn), (5, ia ri), (6, ia lf), (7, ia wa), (8, ia fo), (9, lng dn), (10, ia ha), (11, ia pa), (12, ia bl), (105, bkc o bv), (106, ia u1), (107, ia u2), (108, ia u3), (109, ia u4)])) [(1, tcl n lim a1 kd1 pl1 w1 le1 nu1 tk (Int32.ofNat 0) fp1)]) := by
            refine FR_st2 (l2 := ((1, tcl n lim a1 kd1 pl1 w1 le1 nu1 tk (Int32.ofNat 0) fp1) :: (2, bcl bs) :: [(3, dcl3 P Dn lw cl id gl bo), (4, lng pn), (5, ia ri), (6, ia lf), (7, ia wa), (8, ia fo), (9, lng dn), (10, ia ha), (11, ia pa), (12, ia bl), (105, bkc o bv), (106, ia u1), (107, ia u2), (108, ia u3), (109, ia u4)])) rfl rfl rfl ?_
            refine RT_step (pc2 := 1) rfl (fun _ _ => rfl) ?_
            refine ow_gf rfl rfl rfl hlen rfl ?_
            refine RT_step (pc2 := 7) rfl (fun _ _ => rfl) ?_
            refine rt_acE rfl (by omega) (by omega) ?_
            refine RT_if c1 ?_
            refine RT_step (pc2 := 19) rfl (fun _ _ => rfl) ?_
            refine RT_step (pc2 := 20) rfl (fun _ _ => rfl) ?_
            refine RT_step (pc2 := 21) rfl (fun _ _ => rfl) ?_
            refine ow_gf rfl rfl rfl hlen rfl ?_
            refine ow_is1 rfl rfl rfl rfl rfl ((x_find9 (ov_hl hlen) (ov_at rfl (ov_lt hlen (by decide))) (by omega) (by omega)).up (by decide)) rfl ?_
            rw [show fdI (fd dn le1 0 Dn 0) = Int32.ofNat j1 from by rw [e1]; rfl]
            refine RT_step (pc2 := 28) rfl (fun _ _ => rfl) ?_
            refine RT_step (pc2 := 29) rfl (fun _ _ => rfl) ?_
            refine rt_ico rfl ki_m1 ?_
            refine biF_ne rfl (n_m1 (by omega)) ?_
            refine RT_step (pc2 := 40) rfl (fun _ _ => rfl) ?_
            exact ow_irt rfl rfl rfl
          have hy : FR 3 63 [.ref 3, .ref 1] (ov H ((1, tcl n lim a1 kd1 pl1 w1 le1 nu1 tk (Int32.ofNat 0) fp1) :: (2, bcl bs) :: [(3, dcl3 P Dn lw cl id gl bo), (4, lng pn), (5, ia ri), (6, ia lf), (7, ia wa), (8, ia fo), (9, lng dn), (10, ia ha), (11, ia pa), (12, ia bl), (105, bkc o bv), (106, ia u1), (107, ia u2), (108, ia u3), (109, ia u4)])) (some (.int (Int32.ofNat j1)), ov (ov H ((1, tcl n lim a1 kd1 pl1 w1 le1 nu1 tk (Int32.ofNat 0) fp1) :: (2, bcl bs) :: [(3, dcl3 P Dn lw cl id gl bo), (4, lng pn), (5, ia ri), (6, ia lf), (7, ia wa), (8, ia fo), (9, lng dn), (10, ia ha), (11, ia pa), (12, ia bl), (105, bkc o bv), (106, ia u1), (107, ia u2), (108, ia u3), (109, ia u4)])) [(1, tcl n lim a1 kd1 pl1 w1 le1 nu1 tk (Int32.ofNat 0) fp1)]) := by
            refine FR_st2 (l2 := ((1, tcl n lim a1 kd1 pl1 w1 le1 nu1 tk (Int32.ofNat 0) fp1) :: (2, bcl bs) :: [(3, dcl3 P Dn lw cl id gl bo), (4, lng pn), (5, ia ri), (6, ia lf), (7, ia wa), (8, ia fo), (9, lng dn), (10, ia ha), (11, ia pa), (12, ia bl), (105, bkc o bv), (106, ia u1), (107, ia u2), (108, ia u3), (109, ia u4)])) rfl rfl rfl ?_
            refine RT_step (pc2 := 1) rfl (fun _ _ => rfl) ?_
            refine RT_step (pc2 := 2) rfl (fun _ _ => rfl) ?_
            refine ow_gf rfl rfl rfl hlen rfl ?_
            refine RT_step (pc2 := 6) rfl (fun _ _ => rfl) ?_
            refine ow_gf rfl rfl rfl hlen rfl ?_
            refine ow_is1 (l2 := ((1, tcl n lim a1 kd1 pl1 w1 le1 nu1 tk (Int32.ofNat 0) fp1) :: (2, bcl bs) :: [(3, dcl3 P Dn lw cl id gl bo), (4, lng pn), (5, ia ri), (6, ia lf), (7, ia wa), (8, ia fo), (9, lng dn), (10, ia ha), (11, ia pa), (12, ia bl), (105, bkc o bv), (106, ia u1), (107, ia u2), (108, ia u3), (109, ia u4)])) rfl rfl rfl rfl rfl (hz.up (by decide)) rfl ?_
            exact ow_irt rfl rfl rfl
          refine FR_st2 (l2 := ((1, tcl n lim a3 kd3 pl3 w3 le3 nu3 tk (Int32.ofNat 0) fp3) :: (2, bcl bs) :: [(3, dcl3 P Dn lw cl id gl bo), (4, lng pn), (5, ia ri), (6, ia lf), (7, ia wa), (8, ia fo), (9, lng dn), (10, ia ha), (11, ia pa), (12, ia bl), (105, bkc (o + 1) bv), (106, ia v1), (107, ia v2), (108, ia v3), (109, ia v4)])) rfl rfl rfl ?_
          refine RT_step (pc2 := 1) rfl (fun _ _ => rfl) ?_
          refine ow_iv0 (l2 := ((1, tcl n lim a1 kd1 pl1 w1 le1 nu1 tk (Int32.ofNat 0) fp1) :: (2, bcl bs) :: [(3, dcl3 P Dn lw cl id gl bo), (4, lng pn), (5, ia ri), (6, ia lf), (7, ia wa), (8, ia fo), (9, lng dn), (10, ia ha), (11, ia pa), (12, ia bl), (105, bkc o bv), (106, ia u1), (107, ia u2), (108, ia u3), (109, ia u4)])) rfl rfl rfl rfl hlen rfl rfl rfl ((x1 _ (ov_hl hlen) (ov_at rfl (ov_lt hlen (by decide))) (ov_at rfl (ov_lt hlen (by decide)))).up (by decide)) rfl ?_
          refine RT_step (pc2 := 5) rfl (fun _ _ => rfl) ?_
          refine RT_step (pc2 := 6) rfl (fun _ _ => rfl) ?_
          refine ow_iv1 (l2 := ((1, tcl n lim a1 kd1 pl1 w1 le1 nu1 tk (Int32.ofNat 0) fp1) :: (2, bcl bs) :: [(3, dcl3 P Dn lw cl id gl bo), (4, lng pn), (5, ia ri), (6, ia lf), (7, ia wa), (8, ia fo), (9, lng dn), (10, ia ha), (11, ia pa), (12, ia bl), (105, bkc o bv), (106, ia u1), (107, ia u2), (108, ia u3), (109, ia u4)])) rfl rfl rfl rfl hlen rfl rfl rfl (hy.up (by decide)) rfl ?_
          refine RT_step (pc2 := 11) rfl (fun _ _ => rfl) ?_
          refine RT_step (pc2 := 13) rfl (fun _ _ => rfl) ?_
          refine rt_ico rfl ki_m1 ?_
          refine biF_ne rfl (n_m1 (by omega)) ?_
          refine RT_step (pc2 := 20) rfl (fun _ _ => rfl) ?_
          refine ow_iv0 (l2 := ((1, tcl n lim a2 kd2 pl2 17 le2 nu2 tk (Int32.ofNat 0) fp2) :: (2, bcl bs) :: [(3, dcl3 P Dn lw cl id gl bo), (4, lng pn), (5, ia ri), (6, ia lf), (7, ia wa), (8, ia fo), (9, lng dn), (10, ia ha), (11, ia pa), (12, ia bl), (105, bkc o bv), (106, ia u1), (107, ia u2), (108, ia u3), (109, ia u4)])) rfl rfl rfl rfl hlen rfl rfl rfl ((x2 _ (ov_hl hlen) (ov_at rfl (ov_lt hlen (by decide))) (ov_at rfl (ov_lt hlen (by decide)))).up (by decide)) rfl ?_
          refine RT_step (pc2 := 26) rfl (fun _ _ => rfl) ?_
          refine RT_step (pc2 := 27) rfl (fun _ _ => rfl) ?_
          refine ow_gf rfl rfl rfl hlen rfl ?_
          refine rt_ord rfl (by decide) rfl ?_
          refine rt_isw rfl (v := 13) (by decide +kernel) ?_
          refine RT_step (pc2 := 60) rfl (fun _ _ => rfl) ?_
          refine RT_step (pc2 := 61) rfl (fun _ _ => rfl) ?_
          refine rt_ico rfl ki_0 ?_
          refine RT_step (pc2 := 63) rfl (fun _ _ => rfl) ?_
          refine RT_step (pc2 := 65) rfl (fun _ _ => rfl) ?_
          refine rt_ico rfl ki_0 ?_
          refine ow_iv0 (l2 := ((1, tcl n lim a2 kd2 pl2 17 le2 nu2 tk (Int32.ofNat 0) fp2) :: (2, bcl bs) :: [(3, dcl3 P Dn lw cl id gl bo), (4, lng pn), (5, ia ri), (6, ia lf), (7, ia wa), (8, ia fo), (9, lng dn), (10, ia ha), (11, ia pa), (12, ia bl), (105, bkc (o + 1) bv), (106, ia v1), (107, ia v2), (108, ia v3), (109, ia v4)])) rfl rfl rfl rfl hlen rfl rfl rfl ((hadd bv _ (ov_hl hlen) (ov_at rfl (ov_lt hlen (by decide))) (ov_at rfl (ov_lt hlen (by decide))) (ov_at rfl (ov_lt hlen (by decide))) (ov_at rfl (ov_lt hlen (by decide))) (ov_at rfl (ov_lt hlen (by decide)))).up (by decide)) rfl ?_
          refine RT_step (pc2 := 102) rfl (fun _ _ => rfl) ?_
          refine RT_step (pc2 := 103) rfl (fun _ _ => rfl) ?_
          refine ow_iv0 (l2 := ((1, tcl n lim a3 kd3 pl3 w3 le3 nu3 tk (Int32.ofNat 0) fp3) :: (2, bcl bs) :: [(3, dcl3 P Dn lw cl id gl bo), (4, lng pn), (5, ia ri), (6, ia lf), (7, ia wa), (8, ia fo), (9, lng dn), (10, ia ha), (11, ia pa), (12, ia bl), (105, bkc (o + 1) bv), (106, ia v1), (107, ia v2), (108, ia v3), (109, ia v4)])) rfl rfl rfl rfl hlen rfl rfl rfl ((x3 _ (ov_hl hlen) (ov_at rfl (ov_lt hlen (by decide))) (ov_at rfl (ov_lt hlen (by decide)))).up (by decide)) rfl ?_
          refine rt_ico rfl ki_1 ?_
          exact ow_irt rfl rfl rfl
        · have hm2 : FR 6 257 [.ref 180, .int (Int32.ofNat 7), .int (Int32.ofNat Dn)] (ov H ((180, mcl (Int32.ofNat 0) (Int32.ofNat 0) n lim a1 pl1 (km kd1) nm1 sg1 (Int32.ofNat 0) qm1 wd1 td (posb vs o)) :: (181, mtl ts) :: [(182, ia nw), (187, lng nz), (200, ia (li.set (4 * o) (Int32.ofNat 0)))])) (some (.int (Int32.ofNat 1)), ov (ov H ((180, mcl (Int32.ofNat 0) (Int32.ofNat 0) n lim a1 pl1 (km kd1) nm1 sg1 (Int32.ofNat 0) qm1 wd1 td (posb vs o)) :: (181, mtl ts) :: [(182, ia nw), (187, lng nz), (200, ia (li.set (4 * o) (Int32.ofNat 0)))])) [(180, mcl (Int32.ofNat 0) (Int32.ofNat 0) n lim a2 pl2 (km kd2) nm2 sg2 (Int32.ofNat 0) qm2 wd2 (Int32.ofNat j1) (posb vs o))]) := by
            refine FR_st2 (l2 := ((180, mcl (Int32.ofNat 0) (Int32.ofNat 0) n lim a2 pl2 (km kd2) nm2 sg2 (Int32.ofNat 0) qm2 wd2 (Int32.ofNat j1) (posb vs o)) :: (181, mtl ts) :: [(182, ia nw), (187, lng nz), (200, ia (li.set (4 * o) (Int32.ofNat 0)))])) rfl rfl rfl ?_
            refine RT_step (pc2 := 1) rfl (fun _ _ => rfl) ?_
            refine ow_iv1 rfl rfl rfl rfl hlen rfl rfl rfl ((m_isName (ov_hl hlen) (ov_at rfl (ov_lt hlen (by decide))) (km_is kd1 t1.2.2.2.1).2.2.2.2.2).up (by omega)) rfl ?_
            refine bcF_ne rfl (b01_t hnm1) ?_
            refine RT_step (pc2 := 14) rfl (fun _ _ => rfl) ?_
            refine RT_step (pc2 := 15) rfl (fun _ _ => rfl) ?_
            refine ow_gf rfl rfl rfl hlen rfl ?_
            refine RT_step (pc2 := 19) rfl (fun _ _ => rfl) ?_
            refine RT_step (pc2 := 20) rfl (fun _ _ => rfl) ?_
            refine RT_step (pc2 := 21) rfl (fun _ _ => rfl) ?_
            refine ow_gf rfl rfl rfl hlen rfl ?_
            refine ow_is1 rfl rfl rfl rfl rfl ((m_find7 (bs0 := 7) (cnt := Dn) (ov_hl hlen) (ov_at rfl (ov_lt hlen (by decide))) (by omega) (by omega)).up (by omega)) rfl ?_
            rw [show fdI (fd nz wd1 7 Dn 0) = Int32.ofNat j1 from by rw [g1]; rfl]
            refine ow_pf (l2 := ((180, mcl (Int32.ofNat 0) (Int32.ofNat 0) n lim a1 pl1 (km kd1) nm1 sg1 (Int32.ofNat 0) qm1 wd1 (Int32.ofNat j1) (posb vs o)) :: (181, mtl ts) :: [(182, ia nw), (187, lng nz), (200, ia (li.set (4 * o) (Int32.ofNat 0)))])) rfl rfl rfl rfl rfl hlen rfl rfl ?_
            refine RT_step (pc2 := 31) rfl (fun _ _ => rfl) ?_
            refine ow_gf rfl rfl rfl hlen rfl ?_
            refine rt_ico rfl ki_m1 ?_
            refine biF_ne rfl (n_m1 (by omega)) ?_
            refine RT_step (pc2 := 45) rfl (fun _ _ => rfl) ?_
            refine ow_iv0 (l2 := ((180, mcl (Int32.ofNat 0) (Int32.ofNat 0) n lim a2 pl2 (km kd2) nm2 sg2 (Int32.ofNat 0) qm2 wd2 (Int32.ofNat j1) (posb vs o)) :: (181, mtl ts) :: [(182, ia nw), (187, lng nz), (200, ia (li.set (4 * o) (Int32.ofNat 0)))])) rfl rfl rfl rfl hlen rfl rfl rfl ((m2 _ (ov_hl hlen) (ov_at rfl (ov_lt hlen (by decide))) (ov_at rfl (ov_lt hlen (by decide)))).up (by omega)) rfl ?_
            refine rt_ico rfl ki_1 ?_
            exact ow_irt rfl rfl rfl
          have hm3 : FR 6 255 [.ref 180] (ov H ((180, mcl (Int32.ofNat 0) (Int32.ofNat 0) n lim a2 pl2 (km kd2) nm2 sg2 (Int32.ofNat 0) qm2 wd2 (Int32.ofNat j1) (posb vs o)) :: (181, mtl ts) :: [(182, ia nw), (187, lng nz), (200, ia ((li.set (4 * o) (Int32.ofNat 0)).set (4 * o + 2) (Int32.ofNat j1)))])) (some (.int (Int32.ofNat 1)), ov (ov H ((180, mcl (Int32.ofNat 0) (Int32.ofNat 0) n lim a2 pl2 (km kd2) nm2 sg2 (Int32.ofNat 0) qm2 wd2 (Int32.ofNat j1) (posb vs o)) :: (181, mtl ts) :: [(182, ia nw), (187, lng nz), (200, ia ((li.set (4 * o) (Int32.ofNat 0)).set (4 * o + 2) (Int32.ofNat j1)))])) [(180, mcl (Int32.ofNat 0) (Int32.ofNat 0) n lim a3 pl3 (km kd3) nm3 sg3 (Int32.ofNat 0) qm3 wd3 (Int32.ofNat 0) (posb vs o))]) := by
            refine FR_st2 (l2 := ((180, mcl (Int32.ofNat 0) (Int32.ofNat 0) n lim a3 pl3 (km kd3) nm3 sg3 (Int32.ofNat 0) qm3 wd3 (Int32.ofNat 0) (posb vs o)) :: (181, mtl ts) :: [(182, ia nw), (187, lng nz), (200, ia ((li.set (4 * o) (Int32.ofNat 0)).set (4 * o + 2) (Int32.ofNat j1)))])) rfl rfl rfl ?_
            refine rt_bip rfl k8_13 ?_
            refine RT_step (pc2 := 3) rfl (fun _ _ => rfl) ?_
            refine m_hl hlen (km_is kd2 t2.2.2.2.1).2.2.2.2.2 3 13 _ rfl rfl rfl (fun L2 l0 lw => ?_)
            rw [wj_le t2 3 13 (by decide), jh] at lw
            refine rt_ild rfl lw ?_
            refine rt_bip rfl k8_15 ?_
            refine biT_le rfl (n_le (by decide) (by decide)) ?_
            refine rt_ald rfl l0 ?_
            refine rt_ild rfl lw ?_
            refine rt_bip rfl k8_13 ?_
            refine ba_isub rfl ?_
            rw [show Int32.ofNat 13 - Int32.ofNat 13 = Int32.ofNat 0 from rfl]
            refine ow_pf (l2 := ((180, mcl (Int32.ofNat 0) (Int32.ofNat 0) n lim a2 pl2 (km kd2) nm2 sg2 (Int32.ofNat 0) qm2 wd2 (Int32.ofNat 0) (posb vs o)) :: (181, mtl ts) :: [(182, ia nw), (187, lng nz), (200, ia ((li.set (4 * o) (Int32.ofNat 0)).set (4 * o + 2) (Int32.ofNat j1)))])) rfl rfl rfl rfl rfl hlen rfl rfl ?_
            refine rt_ald rfl l0 ?_
            refine ow_iv0 (l2 := ((180, mcl (Int32.ofNat 0) (Int32.ofNat 0) n lim a3 pl3 (km kd3) nm3 sg3 (Int32.ofNat 0) qm3 wd3 (Int32.ofNat 0) (posb vs o)) :: (181, mtl ts) :: [(182, ia nw), (187, lng nz), (200, ia ((li.set (4 * o) (Int32.ofNat 0)).set (4 * o + 2) (Int32.ofNat j1)))])) rfl rfl rfl rfl hlen rfl rfl rfl ((m3 _ (ov_hl hlen) (ov_at rfl (ov_lt hlen (by decide))) (ov_at rfl (ov_lt hlen (by decide)))).up (by omega)) rfl ?_
            refine rt_ico rfl ki_1 ?_
            exact ow_irt rfl rfl rfl
          refine FR_st2 (l2 := ((180, mcl (Int32.ofNat 0) (Int32.ofNat 0) n lim a3 pl3 (km kd3) nm3 sg3 (Int32.ofNat 0) qm3 wd3 (Int32.ofNat 0) (posb vs o)) :: (181, mtl ts) :: [(182, ia nw), (187, lng nz), (200, ia (((li.set (4 * o) (Int32.ofNat 0)).set (4 * o + 2) (Int32.ofNat j1)).set (4 * o + 3) (Int32.ofNat 0)))])) rfl rfl rfl ?_
          refine rt_bip rfl k8_8 ?_
          refine RT_step (pc2 := 3) rfl (fun _ _ => rfl) ?_
          refine m_vl (z := Int32.ofNat (4 * o)) hlen (km_is kd t.2.2.2.1).2.2.2.2.2 5 8 _ rfl rfl rfl rfl (fun L2 l0 l1 lw => ?_)
          rw [wj_le t 5 8 (by decide), jv] at lw
          refine rt_ild rfl lw ?_
          refine rt_bip rfl k8_12 ?_
          refine biT_le rfl (n_le (by decide) (by decide)) ?_
          refine rt_ald rfl l0 ?_
          refine ow_gf rfl rfl rfl hlen rfl ?_
          refine rt_ild rfl l1 ?_
          refine rt_ild rfl lw ?_
          refine rt_bip rfl k8_8 ?_
          refine ba_isub rfl ?_
          rw [show Int32.ofNat 8 - Int32.ofNat 8 = Int32.ofNat 0 from rfl]
          refine ow_iasN (l2 := ((180, mcl (Int32.ofNat 0) (Int32.ofNat 0) n lim a pl (km kd) nm sg (Int32.ofNat 0) qm wd td (posb vs o)) :: (181, mtl ts) :: [(182, ia nw), (187, lng nz), (200, ia (li.set (4 * o) (Int32.ofNat 0)))])) rfl rfl (by omega) (by omega) hlen rfl rfl ?_
          refine rt_ald rfl l0 ?_
          refine ow_iv0 (l2 := ((180, mcl (Int32.ofNat 0) (Int32.ofNat 0) n lim a1 pl1 (km kd1) nm1 sg1 (Int32.ofNat 0) qm1 wd1 td (posb vs o)) :: (181, mtl ts) :: [(182, ia nw), (187, lng nz), (200, ia (li.set (4 * o) (Int32.ofNat 0)))])) rfl rfl rfl rfl hlen rfl rfl rfl ((m1 _ (ov_hl hlen) (ov_at rfl (ov_lt hlen (by decide))) (ov_at rfl (ov_lt hlen (by decide)))).up (by omega)) rfl ?_
          refine rt_ald rfl l0 ?_
          refine ow_gf rfl rfl rfl hlen rfl ?_
          refine rt_ild rfl l1 ?_
          refine ow_ialN rfl rfl (List.getElem?_set_self (by omega)) (by omega) hlen rfl ?_
          refine RT_step (pc2 := 80) rfl (fun _ _ => rfl) ?_
          refine rt_ald rfl l0 ?_
          refine rt_ild rfl l1 ?_
          refine rt_ico rfl ki_2 ?_
          refine ba_iadd rfl ?_
          rw [n_add]
          refine rt_ald rfl l0 ?_
          refine rt_bip rfl k8_7 ?_
          refine rt_ald rfl l0 ?_
          refine ow_gf rfl rfl rfl hlen rfl ?_
          refine rt_ico rfl ki_1 ?_
          refine ow_ialN rfl rfl hv1 (by omega) hlen rfl ?_
          refine ow_iv1 (l2 := ((180, mcl (Int32.ofNat 0) (Int32.ofNat 0) n lim a2 pl2 (km kd2) nm2 sg2 (Int32.ofNat 0) qm2 wd2 (Int32.ofNat j1) (posb vs o)) :: (181, mtl ts) :: [(182, ia nw), (187, lng nz), (200, ia (li.set (4 * o) (Int32.ofNat 0)))])) rfl rfl rfl rfl hlen rfl rfl rfl (hm2.up (by omega)) rfl ?_
          refine ow_iv1 (l2 := ((180, mcl (Int32.ofNat 0) (Int32.ofNat 0) n lim a2 pl2 (km kd2) nm2 sg2 (Int32.ofNat 0) qm2 wd2 (Int32.ofNat j1) (posb vs o)) :: (181, mtl ts) :: [(182, ia nw), (187, lng nz), (200, ia ((li.set (4 * o) (Int32.ofNat 0)).set (4 * o + 2) (Int32.ofNat j1)))])) rfl rfl rfl rfl hlen rfl rfl rfl ((m_kp1 (ov_hl hlen) (ov_at rfl (ov_lt hlen (by decide))) (ov_at rfl (ov_lt hlen (by decide))) (by (try simp only [List.length_set]); omega) (by omega)).up (by omega)) rfl ?_
          refine bcF_eq rfl (by decide) ?_
          refine rt_ald rfl l0 ?_
          refine rt_ild rfl l1 ?_
          refine rt_ico rfl ki_3 ?_
          refine ba_iadd rfl ?_
          rw [n_add]
          refine rt_ald rfl l0 ?_
          refine ow_iv1 (l2 := ((180, mcl (Int32.ofNat 0) (Int32.ofNat 0) n lim a3 pl3 (km kd3) nm3 sg3 (Int32.ofNat 0) qm3 wd3 (Int32.ofNat 0) (posb vs o)) :: (181, mtl ts) :: [(182, ia nw), (187, lng nz), (200, ia ((li.set (4 * o) (Int32.ofNat 0)).set (4 * o + 2) (Int32.ofNat j1)))])) rfl rfl rfl rfl hlen rfl rfl rfl (hm3.up (by omega)) rfl ?_
          refine ow_iv1 (l2 := ((180, mcl (Int32.ofNat 0) (Int32.ofNat 0) n lim a3 pl3 (km kd3) nm3 sg3 (Int32.ofNat 0) qm3 wd3 (Int32.ofNat 0) (posb vs o)) :: (181, mtl ts) :: [(182, ia nw), (187, lng nz), (200, ia (((li.set (4 * o) (Int32.ofNat 0)).set (4 * o + 2) (Int32.ofNat j1)).set (4 * o + 3) (Int32.ofNat 0)))])) rfl rfl rfl rfl hlen rfl rfl rfl ((m_kp1 (ov_hl hlen) (ov_at rfl (ov_lt hlen (by decide))) (ov_at rfl (ov_lt hlen (by decide))) (by (try simp only [List.length_set]); omega) (by omega)).up (by omega)) rfl ?_
          refine bcF_eq rfl (by decide) ?_
          refine rt_ico rfl ki_1 ?_
          refine RT_step (pc2 := 121) rfl (fun _ _ => rfl) ?_
          exact ow_irt rfl rfl rfl
      · subst ch
        have hk12 := w_k1 t2 (by decide)
        obtain ⟨T3, M3, c3, x3, m3⟩ := s_adv hB hM hb hn hl (po := (posb vs o)) (pl := pl2) (tk := tk) (td := (Int32.ofNat 1)) (fp := fp2) (plM := qm2) t2 (by omega) (by omega)
        obtain ⟨a3, kd3, pl3, w3, le3, nu3, fp3, nm3, sg3, qm3, wd3, rfl, rfl, t3⟩ := c3
        obtain ⟨v1, v2, v3, v4, bx2, hadd⟩ := bx_add bx ho (Int32.ofNat 0) z (Int32.ofNat j1) (Int32.ofNat 1)
        refine Or.inr ⟨_, tk, (Int32.ofNat 1), tcl n lim a3 kd3 pl3 w3 le3 nu3 tk (Int32.ofNat 0) fp3, mcl (Int32.ofNat 0) (Int32.ofNat 0) n lim a3 pl3 (km kd3) nm3 sg3 (Int32.ofNat 0) qm3 wd3 (Int32.ofNat 1) (posb vs o), v1, v2, v3, v4, (((li.set (4 * o) (Int32.ofNat 0)).set (4 * o + 2) (Int32.ofNat j1)).set (4 * o + 3) (Int32.ofNat 1)), tf_td t3, bx2, by simp only [List.length_set]; exact ln, fun H hlen => ?_, fun H hlen => ?_⟩
        · have hz : FR 2 71 [.ref 1, .ref 9, .int (Int32.ofNat Dn)] (ov H ((1, tcl n lim a1 kd1 pl1 w1 le1 nu1 tk (Int32.ofNat 0) fp1) :: (2, bcl bs) :: [(3, dcl3 P Dn lw cl id gl bo), (4, lng pn), (5, ia ri), (6, ia lf), (7, ia wa), (8, ia fo), (9, lng dn), (10, ia ha), (11, ia pa), (12, ia bl), (105, bkc o bv), (106, ia u1), (107, ia u2), (108, ia u3), (109, ia u4)])) (some (.int (Int32.ofNat j1)), ov (ov H ((1, tcl n lim a1 kd1 pl1 w1 le1 nu1 tk (Int32.ofNat 0) fp1) :: (2, bcl bs) :: [(3, dcl3 P Dn lw cl id gl bo), (4, lng pn), (5, ia ri), (6, ia lf), (7, ia wa), (8, ia fo), (9, lng dn), (10, ia ha), (11, ia pa), (12, ia bl), (105, bkc o bv), (106, ia u1), (107, ia u2), (108, ia u3), (109, ia u4)])) [(1, tcl n lim a1 kd1 pl1 w1 le1 nu1 tk (Int32.ofNat 0) fp1)]) := by
            refine FR_st2 (l2 := ((1, tcl n lim a1 kd1 pl1 w1 le1 nu1 tk (Int32.ofNat 0) fp1) :: (2, bcl bs) :: [(3, dcl3 P Dn lw cl id gl bo), (4, lng pn), (5, ia ri), (6, ia lf), (7, ia wa), (8, ia fo), (9, lng dn), (10, ia ha), (11, ia pa), (12, ia bl), (105, bkc o bv), (106, ia u1), (107, ia u2), (108, ia u3), (109, ia u4)])) rfl rfl rfl ?_
            refine RT_step (pc2 := 1) rfl (fun _ _ => rfl) ?_
            refine ow_gf rfl rfl rfl hlen rfl ?_
            refine RT_step (pc2 := 7) rfl (fun _ _ => rfl) ?_
            refine rt_acE rfl (by omega) (by omega) ?_
            refine RT_if c1 ?_
            refine RT_step (pc2 := 19) rfl (fun _ _ => rfl) ?_
            refine RT_step (pc2 := 20) rfl (fun _ _ => rfl) ?_
            refine RT_step (pc2 := 21) rfl (fun _ _ => rfl) ?_
            refine ow_gf rfl rfl rfl hlen rfl ?_
            refine ow_is1 rfl rfl rfl rfl rfl ((x_find9 (ov_hl hlen) (ov_at rfl (ov_lt hlen (by decide))) (by omega) (by omega)).up (by decide)) rfl ?_
            rw [show fdI (fd dn le1 0 Dn 0) = Int32.ofNat j1 from by rw [e1]; rfl]
            refine RT_step (pc2 := 28) rfl (fun _ _ => rfl) ?_
            refine RT_step (pc2 := 29) rfl (fun _ _ => rfl) ?_
            refine rt_ico rfl ki_m1 ?_
            refine biF_ne rfl (n_m1 (by omega)) ?_
            refine RT_step (pc2 := 40) rfl (fun _ _ => rfl) ?_
            exact ow_irt rfl rfl rfl
          have hy : FR 3 63 [.ref 3, .ref 1] (ov H ((1, tcl n lim a1 kd1 pl1 w1 le1 nu1 tk (Int32.ofNat 0) fp1) :: (2, bcl bs) :: [(3, dcl3 P Dn lw cl id gl bo), (4, lng pn), (5, ia ri), (6, ia lf), (7, ia wa), (8, ia fo), (9, lng dn), (10, ia ha), (11, ia pa), (12, ia bl), (105, bkc o bv), (106, ia u1), (107, ia u2), (108, ia u3), (109, ia u4)])) (some (.int (Int32.ofNat j1)), ov (ov H ((1, tcl n lim a1 kd1 pl1 w1 le1 nu1 tk (Int32.ofNat 0) fp1) :: (2, bcl bs) :: [(3, dcl3 P Dn lw cl id gl bo), (4, lng pn), (5, ia ri), (6, ia lf), (7, ia wa), (8, ia fo), (9, lng dn), (10, ia ha), (11, ia pa), (12, ia bl), (105, bkc o bv), (106, ia u1), (107, ia u2), (108, ia u3), (109, ia u4)])) [(1, tcl n lim a1 kd1 pl1 w1 le1 nu1 tk (Int32.ofNat 0) fp1)]) := by
            refine FR_st2 (l2 := ((1, tcl n lim a1 kd1 pl1 w1 le1 nu1 tk (Int32.ofNat 0) fp1) :: (2, bcl bs) :: [(3, dcl3 P Dn lw cl id gl bo), (4, lng pn), (5, ia ri), (6, ia lf), (7, ia wa), (8, ia fo), (9, lng dn), (10, ia ha), (11, ia pa), (12, ia bl), (105, bkc o bv), (106, ia u1), (107, ia u2), (108, ia u3), (109, ia u4)])) rfl rfl rfl ?_
            refine RT_step (pc2 := 1) rfl (fun _ _ => rfl) ?_
            refine RT_step (pc2 := 2) rfl (fun _ _ => rfl) ?_
            refine ow_gf rfl rfl rfl hlen rfl ?_
            refine RT_step (pc2 := 6) rfl (fun _ _ => rfl) ?_
            refine ow_gf rfl rfl rfl hlen rfl ?_
            refine ow_is1 (l2 := ((1, tcl n lim a1 kd1 pl1 w1 le1 nu1 tk (Int32.ofNat 0) fp1) :: (2, bcl bs) :: [(3, dcl3 P Dn lw cl id gl bo), (4, lng pn), (5, ia ri), (6, ia lf), (7, ia wa), (8, ia fo), (9, lng dn), (10, ia ha), (11, ia pa), (12, ia bl), (105, bkc o bv), (106, ia u1), (107, ia u2), (108, ia u3), (109, ia u4)])) rfl rfl rfl rfl rfl (hz.up (by decide)) rfl ?_
            exact ow_irt rfl rfl rfl
          refine FR_st2 (l2 := ((1, tcl n lim a3 kd3 pl3 w3 le3 nu3 tk (Int32.ofNat 0) fp3) :: (2, bcl bs) :: [(3, dcl3 P Dn lw cl id gl bo), (4, lng pn), (5, ia ri), (6, ia lf), (7, ia wa), (8, ia fo), (9, lng dn), (10, ia ha), (11, ia pa), (12, ia bl), (105, bkc (o + 1) bv), (106, ia v1), (107, ia v2), (108, ia v3), (109, ia v4)])) rfl rfl rfl ?_
          refine RT_step (pc2 := 1) rfl (fun _ _ => rfl) ?_
          refine ow_iv0 (l2 := ((1, tcl n lim a1 kd1 pl1 w1 le1 nu1 tk (Int32.ofNat 0) fp1) :: (2, bcl bs) :: [(3, dcl3 P Dn lw cl id gl bo), (4, lng pn), (5, ia ri), (6, ia lf), (7, ia wa), (8, ia fo), (9, lng dn), (10, ia ha), (11, ia pa), (12, ia bl), (105, bkc o bv), (106, ia u1), (107, ia u2), (108, ia u3), (109, ia u4)])) rfl rfl rfl rfl hlen rfl rfl rfl ((x1 _ (ov_hl hlen) (ov_at rfl (ov_lt hlen (by decide))) (ov_at rfl (ov_lt hlen (by decide)))).up (by decide)) rfl ?_
          refine RT_step (pc2 := 5) rfl (fun _ _ => rfl) ?_
          refine RT_step (pc2 := 6) rfl (fun _ _ => rfl) ?_
          refine ow_iv1 (l2 := ((1, tcl n lim a1 kd1 pl1 w1 le1 nu1 tk (Int32.ofNat 0) fp1) :: (2, bcl bs) :: [(3, dcl3 P Dn lw cl id gl bo), (4, lng pn), (5, ia ri), (6, ia lf), (7, ia wa), (8, ia fo), (9, lng dn), (10, ia ha), (11, ia pa), (12, ia bl), (105, bkc o bv), (106, ia u1), (107, ia u2), (108, ia u3), (109, ia u4)])) rfl rfl rfl rfl hlen rfl rfl rfl (hy.up (by decide)) rfl ?_
          refine RT_step (pc2 := 11) rfl (fun _ _ => rfl) ?_
          refine RT_step (pc2 := 13) rfl (fun _ _ => rfl) ?_
          refine rt_ico rfl ki_m1 ?_
          refine biF_ne rfl (n_m1 (by omega)) ?_
          refine RT_step (pc2 := 20) rfl (fun _ _ => rfl) ?_
          refine ow_iv0 (l2 := ((1, tcl n lim a2 kd2 pl2 18 le2 nu2 tk (Int32.ofNat 0) fp2) :: (2, bcl bs) :: [(3, dcl3 P Dn lw cl id gl bo), (4, lng pn), (5, ia ri), (6, ia lf), (7, ia wa), (8, ia fo), (9, lng dn), (10, ia ha), (11, ia pa), (12, ia bl), (105, bkc o bv), (106, ia u1), (107, ia u2), (108, ia u3), (109, ia u4)])) rfl rfl rfl rfl hlen rfl rfl rfl ((x2 _ (ov_hl hlen) (ov_at rfl (ov_lt hlen (by decide))) (ov_at rfl (ov_lt hlen (by decide)))).up (by decide)) rfl ?_
          refine RT_step (pc2 := 26) rfl (fun _ _ => rfl) ?_
          refine RT_step (pc2 := 27) rfl (fun _ _ => rfl) ?_
          refine ow_gf rfl rfl rfl hlen rfl ?_
          refine rt_ord rfl (by decide) rfl ?_
          refine rt_isw rfl (v := 14) (by decide +kernel) ?_
          refine RT_step (pc2 := 72) rfl (fun _ _ => rfl) ?_
          refine RT_step (pc2 := 73) rfl (fun _ _ => rfl) ?_
          refine rt_ico rfl ki_0 ?_
          refine RT_step (pc2 := 75) rfl (fun _ _ => rfl) ?_
          refine RT_step (pc2 := 77) rfl (fun _ _ => rfl) ?_
          refine rt_ico rfl ki_1 ?_
          refine ow_iv0 (l2 := ((1, tcl n lim a2 kd2 pl2 18 le2 nu2 tk (Int32.ofNat 0) fp2) :: (2, bcl bs) :: [(3, dcl3 P Dn lw cl id gl bo), (4, lng pn), (5, ia ri), (6, ia lf), (7, ia wa), (8, ia fo), (9, lng dn), (10, ia ha), (11, ia pa), (12, ia bl), (105, bkc (o + 1) bv), (106, ia v1), (107, ia v2), (108, ia v3), (109, ia v4)])) rfl rfl rfl rfl hlen rfl rfl rfl ((hadd bv _ (ov_hl hlen) (ov_at rfl (ov_lt hlen (by decide))) (ov_at rfl (ov_lt hlen (by decide))) (ov_at rfl (ov_lt hlen (by decide))) (ov_at rfl (ov_lt hlen (by decide))) (ov_at rfl (ov_lt hlen (by decide)))).up (by decide)) rfl ?_
          refine RT_step (pc2 := 102) rfl (fun _ _ => rfl) ?_
          refine RT_step (pc2 := 103) rfl (fun _ _ => rfl) ?_
          refine ow_iv0 (l2 := ((1, tcl n lim a3 kd3 pl3 w3 le3 nu3 tk (Int32.ofNat 0) fp3) :: (2, bcl bs) :: [(3, dcl3 P Dn lw cl id gl bo), (4, lng pn), (5, ia ri), (6, ia lf), (7, ia wa), (8, ia fo), (9, lng dn), (10, ia ha), (11, ia pa), (12, ia bl), (105, bkc (o + 1) bv), (106, ia v1), (107, ia v2), (108, ia v3), (109, ia v4)])) rfl rfl rfl rfl hlen rfl rfl rfl ((x3 _ (ov_hl hlen) (ov_at rfl (ov_lt hlen (by decide))) (ov_at rfl (ov_lt hlen (by decide)))).up (by decide)) rfl ?_
          refine rt_ico rfl ki_1 ?_
          exact ow_irt rfl rfl rfl
        · have hm2 : FR 6 257 [.ref 180, .int (Int32.ofNat 7), .int (Int32.ofNat Dn)] (ov H ((180, mcl (Int32.ofNat 0) (Int32.ofNat 0) n lim a1 pl1 (km kd1) nm1 sg1 (Int32.ofNat 0) qm1 wd1 td (posb vs o)) :: (181, mtl ts) :: [(182, ia nw), (187, lng nz), (200, ia (li.set (4 * o) (Int32.ofNat 0)))])) (some (.int (Int32.ofNat 1)), ov (ov H ((180, mcl (Int32.ofNat 0) (Int32.ofNat 0) n lim a1 pl1 (km kd1) nm1 sg1 (Int32.ofNat 0) qm1 wd1 td (posb vs o)) :: (181, mtl ts) :: [(182, ia nw), (187, lng nz), (200, ia (li.set (4 * o) (Int32.ofNat 0)))])) [(180, mcl (Int32.ofNat 0) (Int32.ofNat 0) n lim a2 pl2 (km kd2) nm2 sg2 (Int32.ofNat 0) qm2 wd2 (Int32.ofNat j1) (posb vs o))]) := by
            refine FR_st2 (l2 := ((180, mcl (Int32.ofNat 0) (Int32.ofNat 0) n lim a2 pl2 (km kd2) nm2 sg2 (Int32.ofNat 0) qm2 wd2 (Int32.ofNat j1) (posb vs o)) :: (181, mtl ts) :: [(182, ia nw), (187, lng nz), (200, ia (li.set (4 * o) (Int32.ofNat 0)))])) rfl rfl rfl ?_
            refine RT_step (pc2 := 1) rfl (fun _ _ => rfl) ?_
            refine ow_iv1 rfl rfl rfl rfl hlen rfl rfl rfl ((m_isName (ov_hl hlen) (ov_at rfl (ov_lt hlen (by decide))) (km_is kd1 t1.2.2.2.1).2.2.2.2.2).up (by omega)) rfl ?_
            refine bcF_ne rfl (b01_t hnm1) ?_
            refine RT_step (pc2 := 14) rfl (fun _ _ => rfl) ?_
            refine RT_step (pc2 := 15) rfl (fun _ _ => rfl) ?_
            refine ow_gf rfl rfl rfl hlen rfl ?_
            refine RT_step (pc2 := 19) rfl (fun _ _ => rfl) ?_
            refine RT_step (pc2 := 20) rfl (fun _ _ => rfl) ?_
            refine RT_step (pc2 := 21) rfl (fun _ _ => rfl) ?_
            refine ow_gf rfl rfl rfl hlen rfl ?_
            refine ow_is1 rfl rfl rfl rfl rfl ((m_find7 (bs0 := 7) (cnt := Dn) (ov_hl hlen) (ov_at rfl (ov_lt hlen (by decide))) (by omega) (by omega)).up (by omega)) rfl ?_
            rw [show fdI (fd nz wd1 7 Dn 0) = Int32.ofNat j1 from by rw [g1]; rfl]
            refine ow_pf (l2 := ((180, mcl (Int32.ofNat 0) (Int32.ofNat 0) n lim a1 pl1 (km kd1) nm1 sg1 (Int32.ofNat 0) qm1 wd1 (Int32.ofNat j1) (posb vs o)) :: (181, mtl ts) :: [(182, ia nw), (187, lng nz), (200, ia (li.set (4 * o) (Int32.ofNat 0)))])) rfl rfl rfl rfl rfl hlen rfl rfl ?_
            refine RT_step (pc2 := 31) rfl (fun _ _ => rfl) ?_
            refine ow_gf rfl rfl rfl hlen rfl ?_
            refine rt_ico rfl ki_m1 ?_
            refine biF_ne rfl (n_m1 (by omega)) ?_
            refine RT_step (pc2 := 45) rfl (fun _ _ => rfl) ?_
            refine ow_iv0 (l2 := ((180, mcl (Int32.ofNat 0) (Int32.ofNat 0) n lim a2 pl2 (km kd2) nm2 sg2 (Int32.ofNat 0) qm2 wd2 (Int32.ofNat j1) (posb vs o)) :: (181, mtl ts) :: [(182, ia nw), (187, lng nz), (200, ia (li.set (4 * o) (Int32.ofNat 0)))])) rfl rfl rfl rfl hlen rfl rfl rfl ((m2 _ (ov_hl hlen) (ov_at rfl (ov_lt hlen (by decide))) (ov_at rfl (ov_lt hlen (by decide)))).up (by omega)) rfl ?_
            refine rt_ico rfl ki_1 ?_
            exact ow_irt rfl rfl rfl
          have hm3 : FR 6 255 [.ref 180] (ov H ((180, mcl (Int32.ofNat 0) (Int32.ofNat 0) n lim a2 pl2 (km kd2) nm2 sg2 (Int32.ofNat 0) qm2 wd2 (Int32.ofNat j1) (posb vs o)) :: (181, mtl ts) :: [(182, ia nw), (187, lng nz), (200, ia ((li.set (4 * o) (Int32.ofNat 0)).set (4 * o + 2) (Int32.ofNat j1)))])) (some (.int (Int32.ofNat 1)), ov (ov H ((180, mcl (Int32.ofNat 0) (Int32.ofNat 0) n lim a2 pl2 (km kd2) nm2 sg2 (Int32.ofNat 0) qm2 wd2 (Int32.ofNat j1) (posb vs o)) :: (181, mtl ts) :: [(182, ia nw), (187, lng nz), (200, ia ((li.set (4 * o) (Int32.ofNat 0)).set (4 * o + 2) (Int32.ofNat j1)))])) [(180, mcl (Int32.ofNat 0) (Int32.ofNat 0) n lim a3 pl3 (km kd3) nm3 sg3 (Int32.ofNat 0) qm3 wd3 (Int32.ofNat 1) (posb vs o))]) := by
            refine FR_st2 (l2 := ((180, mcl (Int32.ofNat 0) (Int32.ofNat 0) n lim a3 pl3 (km kd3) nm3 sg3 (Int32.ofNat 0) qm3 wd3 (Int32.ofNat 1) (posb vs o)) :: (181, mtl ts) :: [(182, ia nw), (187, lng nz), (200, ia ((li.set (4 * o) (Int32.ofNat 0)).set (4 * o + 2) (Int32.ofNat j1)))])) rfl rfl rfl ?_
            refine rt_bip rfl k8_13 ?_
            refine RT_step (pc2 := 3) rfl (fun _ _ => rfl) ?_
            refine m_hl hlen (km_is kd2 t2.2.2.2.1).2.2.2.2.2 3 13 _ rfl rfl rfl (fun L2 l0 lw => ?_)
            rw [wj_le t2 3 13 (by decide), jh] at lw
            refine rt_ild rfl lw ?_
            refine rt_bip rfl k8_15 ?_
            refine biT_le rfl (n_le (by decide) (by decide)) ?_
            refine rt_ald rfl l0 ?_
            refine rt_ild rfl lw ?_
            refine rt_bip rfl k8_13 ?_
            refine ba_isub rfl ?_
            rw [show Int32.ofNat 14 - Int32.ofNat 13 = Int32.ofNat 1 from rfl]
            refine ow_pf (l2 := ((180, mcl (Int32.ofNat 0) (Int32.ofNat 0) n lim a2 pl2 (km kd2) nm2 sg2 (Int32.ofNat 0) qm2 wd2 (Int32.ofNat 1) (posb vs o)) :: (181, mtl ts) :: [(182, ia nw), (187, lng nz), (200, ia ((li.set (4 * o) (Int32.ofNat 0)).set (4 * o + 2) (Int32.ofNat j1)))])) rfl rfl rfl rfl rfl hlen rfl rfl ?_
            refine rt_ald rfl l0 ?_
            refine ow_iv0 (l2 := ((180, mcl (Int32.ofNat 0) (Int32.ofNat 0) n lim a3 pl3 (km kd3) nm3 sg3 (Int32.ofNat 0) qm3 wd3 (Int32.ofNat 1) (posb vs o)) :: (181, mtl ts) :: [(182, ia nw), (187, lng nz), (200, ia ((li.set (4 * o) (Int32.ofNat 0)).set (4 * o + 2) (Int32.ofNat j1)))])) rfl rfl rfl rfl hlen rfl rfl rfl ((m3 _ (ov_hl hlen) (ov_at rfl (ov_lt hlen (by decide))) (ov_at rfl (ov_lt hlen (by decide)))).up (by omega)) rfl ?_
            refine rt_ico rfl ki_1 ?_
            exact ow_irt rfl rfl rfl
          refine FR_st2 (l2 := ((180, mcl (Int32.ofNat 0) (Int32.ofNat 0) n lim a3 pl3 (km kd3) nm3 sg3 (Int32.ofNat 0) qm3 wd3 (Int32.ofNat 1) (posb vs o)) :: (181, mtl ts) :: [(182, ia nw), (187, lng nz), (200, ia (((li.set (4 * o) (Int32.ofNat 0)).set (4 * o + 2) (Int32.ofNat j1)).set (4 * o + 3) (Int32.ofNat 1)))])) rfl rfl rfl ?_
          refine rt_bip rfl k8_8 ?_
          refine RT_step (pc2 := 3) rfl (fun _ _ => rfl) ?_
          refine m_vl (z := Int32.ofNat (4 * o)) hlen (km_is kd t.2.2.2.1).2.2.2.2.2 5 8 _ rfl rfl rfl rfl (fun L2 l0 l1 lw => ?_)
          rw [wj_le t 5 8 (by decide), jv] at lw
          refine rt_ild rfl lw ?_
          refine rt_bip rfl k8_12 ?_
          refine biT_le rfl (n_le (by decide) (by decide)) ?_
          refine rt_ald rfl l0 ?_
          refine ow_gf rfl rfl rfl hlen rfl ?_
          refine rt_ild rfl l1 ?_
          refine rt_ild rfl lw ?_
          refine rt_bip rfl k8_8 ?_
          refine ba_isub rfl ?_
          rw [show Int32.ofNat 8 - Int32.ofNat 8 = Int32.ofNat 0 from rfl]
          refine ow_iasN (l2 := ((180, mcl (Int32.ofNat 0) (Int32.ofNat 0) n lim a pl (km kd) nm sg (Int32.ofNat 0) qm wd td (posb vs o)) :: (181, mtl ts) :: [(182, ia nw), (187, lng nz), (200, ia (li.set (4 * o) (Int32.ofNat 0)))])) rfl rfl (by omega) (by omega) hlen rfl rfl ?_
          refine rt_ald rfl l0 ?_
          refine ow_iv0 (l2 := ((180, mcl (Int32.ofNat 0) (Int32.ofNat 0) n lim a1 pl1 (km kd1) nm1 sg1 (Int32.ofNat 0) qm1 wd1 td (posb vs o)) :: (181, mtl ts) :: [(182, ia nw), (187, lng nz), (200, ia (li.set (4 * o) (Int32.ofNat 0)))])) rfl rfl rfl rfl hlen rfl rfl rfl ((m1 _ (ov_hl hlen) (ov_at rfl (ov_lt hlen (by decide))) (ov_at rfl (ov_lt hlen (by decide)))).up (by omega)) rfl ?_
          refine rt_ald rfl l0 ?_
          refine ow_gf rfl rfl rfl hlen rfl ?_
          refine rt_ild rfl l1 ?_
          refine ow_ialN rfl rfl (List.getElem?_set_self (by omega)) (by omega) hlen rfl ?_
          refine RT_step (pc2 := 80) rfl (fun _ _ => rfl) ?_
          refine rt_ald rfl l0 ?_
          refine rt_ild rfl l1 ?_
          refine rt_ico rfl ki_2 ?_
          refine ba_iadd rfl ?_
          rw [n_add]
          refine rt_ald rfl l0 ?_
          refine rt_bip rfl k8_7 ?_
          refine rt_ald rfl l0 ?_
          refine ow_gf rfl rfl rfl hlen rfl ?_
          refine rt_ico rfl ki_1 ?_
          refine ow_ialN rfl rfl hv1 (by omega) hlen rfl ?_
          refine ow_iv1 (l2 := ((180, mcl (Int32.ofNat 0) (Int32.ofNat 0) n lim a2 pl2 (km kd2) nm2 sg2 (Int32.ofNat 0) qm2 wd2 (Int32.ofNat j1) (posb vs o)) :: (181, mtl ts) :: [(182, ia nw), (187, lng nz), (200, ia (li.set (4 * o) (Int32.ofNat 0)))])) rfl rfl rfl rfl hlen rfl rfl rfl (hm2.up (by omega)) rfl ?_
          refine ow_iv1 (l2 := ((180, mcl (Int32.ofNat 0) (Int32.ofNat 0) n lim a2 pl2 (km kd2) nm2 sg2 (Int32.ofNat 0) qm2 wd2 (Int32.ofNat j1) (posb vs o)) :: (181, mtl ts) :: [(182, ia nw), (187, lng nz), (200, ia ((li.set (4 * o) (Int32.ofNat 0)).set (4 * o + 2) (Int32.ofNat j1)))])) rfl rfl rfl rfl hlen rfl rfl rfl ((m_kp1 (ov_hl hlen) (ov_at rfl (ov_lt hlen (by decide))) (ov_at rfl (ov_lt hlen (by decide))) (by (try simp only [List.length_set]); omega) (by omega)).up (by omega)) rfl ?_
          refine bcF_eq rfl (by decide) ?_
          refine rt_ald rfl l0 ?_
          refine rt_ild rfl l1 ?_
          refine rt_ico rfl ki_3 ?_
          refine ba_iadd rfl ?_
          rw [n_add]
          refine rt_ald rfl l0 ?_
          refine ow_iv1 (l2 := ((180, mcl (Int32.ofNat 0) (Int32.ofNat 0) n lim a3 pl3 (km kd3) nm3 sg3 (Int32.ofNat 0) qm3 wd3 (Int32.ofNat 1) (posb vs o)) :: (181, mtl ts) :: [(182, ia nw), (187, lng nz), (200, ia ((li.set (4 * o) (Int32.ofNat 0)).set (4 * o + 2) (Int32.ofNat j1)))])) rfl rfl rfl rfl hlen rfl rfl rfl (hm3.up (by omega)) rfl ?_
          refine ow_iv1 (l2 := ((180, mcl (Int32.ofNat 0) (Int32.ofNat 0) n lim a3 pl3 (km kd3) nm3 sg3 (Int32.ofNat 0) qm3 wd3 (Int32.ofNat 1) (posb vs o)) :: (181, mtl ts) :: [(182, ia nw), (187, lng nz), (200, ia (((li.set (4 * o) (Int32.ofNat 0)).set (4 * o + 2) (Int32.ofNat j1)).set (4 * o + 3) (Int32.ofNat 1)))])) rfl rfl rfl rfl hlen rfl rfl rfl ((m_kp1 (ov_hl hlen) (ov_at rfl (ov_lt hlen (by decide))) (ov_at rfl (ov_lt hlen (by decide))) (by (try simp only [List.length_set]); omega) (by omega)).up (by omega)) rfl ?_
          refine bcF_eq rfl (by decide) ?_
          refine rt_ico rfl ki_1 ?_
          refine RT_step (pc2 := 121) rfl (fun _ _ => rfl) ?_
          exact ow_irt rfl rfl rfl
      · subst ch
        have hk12 := w_k1 t2 (by decide)
        obtain ⟨T3, M3, c3, x3, m3⟩ := s_adv hB hM hb hn hl (po := (posb vs o)) (pl := pl2) (tk := tk) (td := (Int32.ofNat 2)) (fp := fp2) (plM := qm2) t2 (by omega) (by omega)
        obtain ⟨a3, kd3, pl3, w3, le3, nu3, fp3, nm3, sg3, qm3, wd3, rfl, rfl, t3⟩ := c3
        obtain ⟨v1, v2, v3, v4, bx2, hadd⟩ := bx_add bx ho (Int32.ofNat 0) z (Int32.ofNat j1) (Int32.ofNat 2)
        refine Or.inr ⟨_, tk, (Int32.ofNat 2), tcl n lim a3 kd3 pl3 w3 le3 nu3 tk (Int32.ofNat 0) fp3, mcl (Int32.ofNat 0) (Int32.ofNat 0) n lim a3 pl3 (km kd3) nm3 sg3 (Int32.ofNat 0) qm3 wd3 (Int32.ofNat 2) (posb vs o), v1, v2, v3, v4, (((li.set (4 * o) (Int32.ofNat 0)).set (4 * o + 2) (Int32.ofNat j1)).set (4 * o + 3) (Int32.ofNat 2)), tf_td t3, bx2, by simp only [List.length_set]; exact ln, fun H hlen => ?_, fun H hlen => ?_⟩
        · have hz : FR 2 71 [.ref 1, .ref 9, .int (Int32.ofNat Dn)] (ov H ((1, tcl n lim a1 kd1 pl1 w1 le1 nu1 tk (Int32.ofNat 0) fp1) :: (2, bcl bs) :: [(3, dcl3 P Dn lw cl id gl bo), (4, lng pn), (5, ia ri), (6, ia lf), (7, ia wa), (8, ia fo), (9, lng dn), (10, ia ha), (11, ia pa), (12, ia bl), (105, bkc o bv), (106, ia u1), (107, ia u2), (108, ia u3), (109, ia u4)])) (some (.int (Int32.ofNat j1)), ov (ov H ((1, tcl n lim a1 kd1 pl1 w1 le1 nu1 tk (Int32.ofNat 0) fp1) :: (2, bcl bs) :: [(3, dcl3 P Dn lw cl id gl bo), (4, lng pn), (5, ia ri), (6, ia lf), (7, ia wa), (8, ia fo), (9, lng dn), (10, ia ha), (11, ia pa), (12, ia bl), (105, bkc o bv), (106, ia u1), (107, ia u2), (108, ia u3), (109, ia u4)])) [(1, tcl n lim a1 kd1 pl1 w1 le1 nu1 tk (Int32.ofNat 0) fp1)]) := by
            refine FR_st2 (l2 := ((1, tcl n lim a1 kd1 pl1 w1 le1 nu1 tk (Int32.ofNat 0) fp1) :: (2, bcl bs) :: [(3, dcl3 P Dn lw cl id gl bo), (4, lng pn), (5, ia ri), (6, ia lf), (7, ia wa), (8, ia fo), (9, lng dn), (10, ia ha), (11, ia pa), (12, ia bl), (105, bkc o bv), (106, ia u1), (107, ia u2), (108, ia u3), (109, ia u4)])) rfl rfl rfl ?_
            refine RT_step (pc2 := 1) rfl (fun _ _ => rfl) ?_
            refine ow_gf rfl rfl rfl hlen rfl ?_
            refine RT_step (pc2 := 7) rfl (fun _ _ => rfl) ?_
            refine rt_acE rfl (by omega) (by omega) ?_
            refine RT_if c1 ?_
            refine RT_step (pc2 := 19) rfl (fun _ _ => rfl) ?_
            refine RT_step (pc2 := 20) rfl (fun _ _ => rfl) ?_
            refine RT_step (pc2 := 21) rfl (fun _ _ => rfl) ?_
            refine ow_gf rfl rfl rfl hlen rfl ?_
            refine ow_is1 rfl rfl rfl rfl rfl ((x_find9 (ov_hl hlen) (ov_at rfl (ov_lt hlen (by decide))) (by omega) (by omega)).up (by decide)) rfl ?_
            rw [show fdI (fd dn le1 0 Dn 0) = Int32.ofNat j1 from by rw [e1]; rfl]
            refine RT_step (pc2 := 28) rfl (fun _ _ => rfl) ?_
            refine RT_step (pc2 := 29) rfl (fun _ _ => rfl) ?_
            refine rt_ico rfl ki_m1 ?_
            refine biF_ne rfl (n_m1 (by omega)) ?_
            refine RT_step (pc2 := 40) rfl (fun _ _ => rfl) ?_
            exact ow_irt rfl rfl rfl
          have hy : FR 3 63 [.ref 3, .ref 1] (ov H ((1, tcl n lim a1 kd1 pl1 w1 le1 nu1 tk (Int32.ofNat 0) fp1) :: (2, bcl bs) :: [(3, dcl3 P Dn lw cl id gl bo), (4, lng pn), (5, ia ri), (6, ia lf), (7, ia wa), (8, ia fo), (9, lng dn), (10, ia ha), (11, ia pa), (12, ia bl), (105, bkc o bv), (106, ia u1), (107, ia u2), (108, ia u3), (109, ia u4)])) (some (.int (Int32.ofNat j1)), ov (ov H ((1, tcl n lim a1 kd1 pl1 w1 le1 nu1 tk (Int32.ofNat 0) fp1) :: (2, bcl bs) :: [(3, dcl3 P Dn lw cl id gl bo), (4, lng pn), (5, ia ri), (6, ia lf), (7, ia wa), (8, ia fo), (9, lng dn), (10, ia ha), (11, ia pa), (12, ia bl), (105, bkc o bv), (106, ia u1), (107, ia u2), (108, ia u3), (109, ia u4)])) [(1, tcl n lim a1 kd1 pl1 w1 le1 nu1 tk (Int32.ofNat 0) fp1)]) := by
            refine FR_st2 (l2 := ((1, tcl n lim a1 kd1 pl1 w1 le1 nu1 tk (Int32.ofNat 0) fp1) :: (2, bcl bs) :: [(3, dcl3 P Dn lw cl id gl bo), (4, lng pn), (5, ia ri), (6, ia lf), (7, ia wa), (8, ia fo), (9, lng dn), (10, ia ha), (11, ia pa), (12, ia bl), (105, bkc o bv), (106, ia u1), (107, ia u2), (108, ia u3), (109, ia u4)])) rfl rfl rfl ?_
            refine RT_step (pc2 := 1) rfl (fun _ _ => rfl) ?_
            refine RT_step (pc2 := 2) rfl (fun _ _ => rfl) ?_
            refine ow_gf rfl rfl rfl hlen rfl ?_
            refine RT_step (pc2 := 6) rfl (fun _ _ => rfl) ?_
            refine ow_gf rfl rfl rfl hlen rfl ?_
            refine ow_is1 (l2 := ((1, tcl n lim a1 kd1 pl1 w1 le1 nu1 tk (Int32.ofNat 0) fp1) :: (2, bcl bs) :: [(3, dcl3 P Dn lw cl id gl bo), (4, lng pn), (5, ia ri), (6, ia lf), (7, ia wa), (8, ia fo), (9, lng dn), (10, ia ha), (11, ia pa), (12, ia bl), (105, bkc o bv), (106, ia u1), (107, ia u2), (108, ia u3), (109, ia u4)])) rfl rfl rfl rfl rfl (hz.up (by decide)) rfl ?_
            exact ow_irt rfl rfl rfl
          refine FR_st2 (l2 := ((1, tcl n lim a3 kd3 pl3 w3 le3 nu3 tk (Int32.ofNat 0) fp3) :: (2, bcl bs) :: [(3, dcl3 P Dn lw cl id gl bo), (4, lng pn), (5, ia ri), (6, ia lf), (7, ia wa), (8, ia fo), (9, lng dn), (10, ia ha), (11, ia pa), (12, ia bl), (105, bkc (o + 1) bv), (106, ia v1), (107, ia v2), (108, ia v3), (109, ia v4)])) rfl rfl rfl ?_
          refine RT_step (pc2 := 1) rfl (fun _ _ => rfl) ?_
          refine ow_iv0 (l2 := ((1, tcl n lim a1 kd1 pl1 w1 le1 nu1 tk (Int32.ofNat 0) fp1) :: (2, bcl bs) :: [(3, dcl3 P Dn lw cl id gl bo), (4, lng pn), (5, ia ri), (6, ia lf), (7, ia wa), (8, ia fo), (9, lng dn), (10, ia ha), (11, ia pa), (12, ia bl), (105, bkc o bv), (106, ia u1), (107, ia u2), (108, ia u3), (109, ia u4)])) rfl rfl rfl rfl hlen rfl rfl rfl ((x1 _ (ov_hl hlen) (ov_at rfl (ov_lt hlen (by decide))) (ov_at rfl (ov_lt hlen (by decide)))).up (by decide)) rfl ?_
          refine RT_step (pc2 := 5) rfl (fun _ _ => rfl) ?_
          refine RT_step (pc2 := 6) rfl (fun _ _ => rfl) ?_
          refine ow_iv1 (l2 := ((1, tcl n lim a1 kd1 pl1 w1 le1 nu1 tk (Int32.ofNat 0) fp1) :: (2, bcl bs) :: [(3, dcl3 P Dn lw cl id gl bo), (4, lng pn), (5, ia ri), (6, ia lf), (7, ia wa), (8, ia fo), (9, lng dn), (10, ia ha), (11, ia pa), (12, ia bl), (105, bkc o bv), (106, ia u1), (107, ia u2), (108, ia u3), (109, ia u4)])) rfl rfl rfl rfl hlen rfl rfl rfl (hy.up (by decide)) rfl ?_
          refine RT_step (pc2 := 11) rfl (fun _ _ => rfl) ?_
          refine RT_step (pc2 := 13) rfl (fun _ _ => rfl) ?_
          refine rt_ico rfl ki_m1 ?_
          refine biF_ne rfl (n_m1 (by omega)) ?_
          refine RT_step (pc2 := 20) rfl (fun _ _ => rfl) ?_
          refine ow_iv0 (l2 := ((1, tcl n lim a2 kd2 pl2 19 le2 nu2 tk (Int32.ofNat 0) fp2) :: (2, bcl bs) :: [(3, dcl3 P Dn lw cl id gl bo), (4, lng pn), (5, ia ri), (6, ia lf), (7, ia wa), (8, ia fo), (9, lng dn), (10, ia ha), (11, ia pa), (12, ia bl), (105, bkc o bv), (106, ia u1), (107, ia u2), (108, ia u3), (109, ia u4)])) rfl rfl rfl rfl hlen rfl rfl rfl ((x2 _ (ov_hl hlen) (ov_at rfl (ov_lt hlen (by decide))) (ov_at rfl (ov_lt hlen (by decide)))).up (by decide)) rfl ?_
          refine RT_step (pc2 := 26) rfl (fun _ _ => rfl) ?_
          refine RT_step (pc2 := 27) rfl (fun _ _ => rfl) ?_
          refine ow_gf rfl rfl rfl hlen rfl ?_
          refine rt_ord rfl (by decide) rfl ?_
          refine rt_isw rfl (v := 15) (by decide +kernel) ?_
          refine RT_step (pc2 := 84) rfl (fun _ _ => rfl) ?_
          refine RT_step (pc2 := 85) rfl (fun _ _ => rfl) ?_
          refine rt_ico rfl ki_0 ?_
          refine RT_step (pc2 := 87) rfl (fun _ _ => rfl) ?_
          refine RT_step (pc2 := 89) rfl (fun _ _ => rfl) ?_
          refine rt_ico rfl ki_2 ?_
          refine ow_iv0 (l2 := ((1, tcl n lim a2 kd2 pl2 19 le2 nu2 tk (Int32.ofNat 0) fp2) :: (2, bcl bs) :: [(3, dcl3 P Dn lw cl id gl bo), (4, lng pn), (5, ia ri), (6, ia lf), (7, ia wa), (8, ia fo), (9, lng dn), (10, ia ha), (11, ia pa), (12, ia bl), (105, bkc (o + 1) bv), (106, ia v1), (107, ia v2), (108, ia v3), (109, ia v4)])) rfl rfl rfl rfl hlen rfl rfl rfl ((hadd bv _ (ov_hl hlen) (ov_at rfl (ov_lt hlen (by decide))) (ov_at rfl (ov_lt hlen (by decide))) (ov_at rfl (ov_lt hlen (by decide))) (ov_at rfl (ov_lt hlen (by decide))) (ov_at rfl (ov_lt hlen (by decide)))).up (by decide)) rfl ?_
          refine RT_step (pc2 := 102) rfl (fun _ _ => rfl) ?_
          refine RT_step (pc2 := 103) rfl (fun _ _ => rfl) ?_
          refine ow_iv0 (l2 := ((1, tcl n lim a3 kd3 pl3 w3 le3 nu3 tk (Int32.ofNat 0) fp3) :: (2, bcl bs) :: [(3, dcl3 P Dn lw cl id gl bo), (4, lng pn), (5, ia ri), (6, ia lf), (7, ia wa), (8, ia fo), (9, lng dn), (10, ia ha), (11, ia pa), (12, ia bl), (105, bkc (o + 1) bv), (106, ia v1), (107, ia v2), (108, ia v3), (109, ia v4)])) rfl rfl rfl rfl hlen rfl rfl rfl ((x3 _ (ov_hl hlen) (ov_at rfl (ov_lt hlen (by decide))) (ov_at rfl (ov_lt hlen (by decide)))).up (by decide)) rfl ?_
          refine rt_ico rfl ki_1 ?_
          exact ow_irt rfl rfl rfl
        · have hm2 : FR 6 257 [.ref 180, .int (Int32.ofNat 7), .int (Int32.ofNat Dn)] (ov H ((180, mcl (Int32.ofNat 0) (Int32.ofNat 0) n lim a1 pl1 (km kd1) nm1 sg1 (Int32.ofNat 0) qm1 wd1 td (posb vs o)) :: (181, mtl ts) :: [(182, ia nw), (187, lng nz), (200, ia (li.set (4 * o) (Int32.ofNat 0)))])) (some (.int (Int32.ofNat 1)), ov (ov H ((180, mcl (Int32.ofNat 0) (Int32.ofNat 0) n lim a1 pl1 (km kd1) nm1 sg1 (Int32.ofNat 0) qm1 wd1 td (posb vs o)) :: (181, mtl ts) :: [(182, ia nw), (187, lng nz), (200, ia (li.set (4 * o) (Int32.ofNat 0)))])) [(180, mcl (Int32.ofNat 0) (Int32.ofNat 0) n lim a2 pl2 (km kd2) nm2 sg2 (Int32.ofNat 0) qm2 wd2 (Int32.ofNat j1) (posb vs o))]) := by
            refine FR_st2 (l2 := ((180, mcl (Int32.ofNat 0) (Int32.ofNat 0) n lim a2 pl2 (km kd2) nm2 sg2 (Int32.ofNat 0) qm2 wd2 (Int32.ofNat j1) (posb vs o)) :: (181, mtl ts) :: [(182, ia nw), (187, lng nz), (200, ia (li.set (4 * o) (Int32.ofNat 0)))])) rfl rfl rfl ?_
            refine RT_step (pc2 := 1) rfl (fun _ _ => rfl) ?_
            refine ow_iv1 rfl rfl rfl rfl hlen rfl rfl rfl ((m_isName (ov_hl hlen) (ov_at rfl (ov_lt hlen (by decide))) (km_is kd1 t1.2.2.2.1).2.2.2.2.2).up (by omega)) rfl ?_
            refine bcF_ne rfl (b01_t hnm1) ?_
            refine RT_step (pc2 := 14) rfl (fun _ _ => rfl) ?_
            refine RT_step (pc2 := 15) rfl (fun _ _ => rfl) ?_
            refine ow_gf rfl rfl rfl hlen rfl ?_
            refine RT_step (pc2 := 19) rfl (fun _ _ => rfl) ?_
            refine RT_step (pc2 := 20) rfl (fun _ _ => rfl) ?_
            refine RT_step (pc2 := 21) rfl (fun _ _ => rfl) ?_
            refine ow_gf rfl rfl rfl hlen rfl ?_
            refine ow_is1 rfl rfl rfl rfl rfl ((m_find7 (bs0 := 7) (cnt := Dn) (ov_hl hlen) (ov_at rfl (ov_lt hlen (by decide))) (by omega) (by omega)).up (by omega)) rfl ?_
            rw [show fdI (fd nz wd1 7 Dn 0) = Int32.ofNat j1 from by rw [g1]; rfl]
            refine ow_pf (l2 := ((180, mcl (Int32.ofNat 0) (Int32.ofNat 0) n lim a1 pl1 (km kd1) nm1 sg1 (Int32.ofNat 0) qm1 wd1 (Int32.ofNat j1) (posb vs o)) :: (181, mtl ts) :: [(182, ia nw), (187, lng nz), (200, ia (li.set (4 * o) (Int32.ofNat 0)))])) rfl rfl rfl rfl rfl hlen rfl rfl ?_
            refine RT_step (pc2 := 31) rfl (fun _ _ => rfl) ?_
            refine ow_gf rfl rfl rfl hlen rfl ?_
            refine rt_ico rfl ki_m1 ?_
            refine biF_ne rfl (n_m1 (by omega)) ?_
            refine RT_step (pc2 := 45) rfl (fun _ _ => rfl) ?_
            refine ow_iv0 (l2 := ((180, mcl (Int32.ofNat 0) (Int32.ofNat 0) n lim a2 pl2 (km kd2) nm2 sg2 (Int32.ofNat 0) qm2 wd2 (Int32.ofNat j1) (posb vs o)) :: (181, mtl ts) :: [(182, ia nw), (187, lng nz), (200, ia (li.set (4 * o) (Int32.ofNat 0)))])) rfl rfl rfl rfl hlen rfl rfl rfl ((m2 _ (ov_hl hlen) (ov_at rfl (ov_lt hlen (by decide))) (ov_at rfl (ov_lt hlen (by decide)))).up (by omega)) rfl ?_
            refine rt_ico rfl ki_1 ?_
            exact ow_irt rfl rfl rfl
          have hm3 : FR 6 255 [.ref 180] (ov H ((180, mcl (Int32.ofNat 0) (Int32.ofNat 0) n lim a2 pl2 (km kd2) nm2 sg2 (Int32.ofNat 0) qm2 wd2 (Int32.ofNat j1) (posb vs o)) :: (181, mtl ts) :: [(182, ia nw), (187, lng nz), (200, ia ((li.set (4 * o) (Int32.ofNat 0)).set (4 * o + 2) (Int32.ofNat j1)))])) (some (.int (Int32.ofNat 1)), ov (ov H ((180, mcl (Int32.ofNat 0) (Int32.ofNat 0) n lim a2 pl2 (km kd2) nm2 sg2 (Int32.ofNat 0) qm2 wd2 (Int32.ofNat j1) (posb vs o)) :: (181, mtl ts) :: [(182, ia nw), (187, lng nz), (200, ia ((li.set (4 * o) (Int32.ofNat 0)).set (4 * o + 2) (Int32.ofNat j1)))])) [(180, mcl (Int32.ofNat 0) (Int32.ofNat 0) n lim a3 pl3 (km kd3) nm3 sg3 (Int32.ofNat 0) qm3 wd3 (Int32.ofNat 2) (posb vs o))]) := by
            refine FR_st2 (l2 := ((180, mcl (Int32.ofNat 0) (Int32.ofNat 0) n lim a3 pl3 (km kd3) nm3 sg3 (Int32.ofNat 0) qm3 wd3 (Int32.ofNat 2) (posb vs o)) :: (181, mtl ts) :: [(182, ia nw), (187, lng nz), (200, ia ((li.set (4 * o) (Int32.ofNat 0)).set (4 * o + 2) (Int32.ofNat j1)))])) rfl rfl rfl ?_
            refine rt_bip rfl k8_13 ?_
            refine RT_step (pc2 := 3) rfl (fun _ _ => rfl) ?_
            refine m_hl hlen (km_is kd2 t2.2.2.2.1).2.2.2.2.2 3 13 _ rfl rfl rfl (fun L2 l0 lw => ?_)
            rw [wj_le t2 3 13 (by decide), jh] at lw
            refine rt_ild rfl lw ?_
            refine rt_bip rfl k8_15 ?_
            refine biT_le rfl (n_le (by decide) (by decide)) ?_
            refine rt_ald rfl l0 ?_
            refine rt_ild rfl lw ?_
            refine rt_bip rfl k8_13 ?_
            refine ba_isub rfl ?_
            rw [show Int32.ofNat 15 - Int32.ofNat 13 = Int32.ofNat 2 from rfl]
            refine ow_pf (l2 := ((180, mcl (Int32.ofNat 0) (Int32.ofNat 0) n lim a2 pl2 (km kd2) nm2 sg2 (Int32.ofNat 0) qm2 wd2 (Int32.ofNat 2) (posb vs o)) :: (181, mtl ts) :: [(182, ia nw), (187, lng nz), (200, ia ((li.set (4 * o) (Int32.ofNat 0)).set (4 * o + 2) (Int32.ofNat j1)))])) rfl rfl rfl rfl rfl hlen rfl rfl ?_
            refine rt_ald rfl l0 ?_
            refine ow_iv0 (l2 := ((180, mcl (Int32.ofNat 0) (Int32.ofNat 0) n lim a3 pl3 (km kd3) nm3 sg3 (Int32.ofNat 0) qm3 wd3 (Int32.ofNat 2) (posb vs o)) :: (181, mtl ts) :: [(182, ia nw), (187, lng nz), (200, ia ((li.set (4 * o) (Int32.ofNat 0)).set (4 * o + 2) (Int32.ofNat j1)))])) rfl rfl rfl rfl hlen rfl rfl rfl ((m3 _ (ov_hl hlen) (ov_at rfl (ov_lt hlen (by decide))) (ov_at rfl (ov_lt hlen (by decide)))).up (by omega)) rfl ?_
            refine rt_ico rfl ki_1 ?_
            exact ow_irt rfl rfl rfl
          refine FR_st2 (l2 := ((180, mcl (Int32.ofNat 0) (Int32.ofNat 0) n lim a3 pl3 (km kd3) nm3 sg3 (Int32.ofNat 0) qm3 wd3 (Int32.ofNat 2) (posb vs o)) :: (181, mtl ts) :: [(182, ia nw), (187, lng nz), (200, ia (((li.set (4 * o) (Int32.ofNat 0)).set (4 * o + 2) (Int32.ofNat j1)).set (4 * o + 3) (Int32.ofNat 2)))])) rfl rfl rfl ?_
          refine rt_bip rfl k8_8 ?_
          refine RT_step (pc2 := 3) rfl (fun _ _ => rfl) ?_
          refine m_vl (z := Int32.ofNat (4 * o)) hlen (km_is kd t.2.2.2.1).2.2.2.2.2 5 8 _ rfl rfl rfl rfl (fun L2 l0 l1 lw => ?_)
          rw [wj_le t 5 8 (by decide), jv] at lw
          refine rt_ild rfl lw ?_
          refine rt_bip rfl k8_12 ?_
          refine biT_le rfl (n_le (by decide) (by decide)) ?_
          refine rt_ald rfl l0 ?_
          refine ow_gf rfl rfl rfl hlen rfl ?_
          refine rt_ild rfl l1 ?_
          refine rt_ild rfl lw ?_
          refine rt_bip rfl k8_8 ?_
          refine ba_isub rfl ?_
          rw [show Int32.ofNat 8 - Int32.ofNat 8 = Int32.ofNat 0 from rfl]
          refine ow_iasN (l2 := ((180, mcl (Int32.ofNat 0) (Int32.ofNat 0) n lim a pl (km kd) nm sg (Int32.ofNat 0) qm wd td (posb vs o)) :: (181, mtl ts) :: [(182, ia nw), (187, lng nz), (200, ia (li.set (4 * o) (Int32.ofNat 0)))])) rfl rfl (by omega) (by omega) hlen rfl rfl ?_
          refine rt_ald rfl l0 ?_
          refine ow_iv0 (l2 := ((180, mcl (Int32.ofNat 0) (Int32.ofNat 0) n lim a1 pl1 (km kd1) nm1 sg1 (Int32.ofNat 0) qm1 wd1 td (posb vs o)) :: (181, mtl ts) :: [(182, ia nw), (187, lng nz), (200, ia (li.set (4 * o) (Int32.ofNat 0)))])) rfl rfl rfl rfl hlen rfl rfl rfl ((m1 _ (ov_hl hlen) (ov_at rfl (ov_lt hlen (by decide))) (ov_at rfl (ov_lt hlen (by decide)))).up (by omega)) rfl ?_
          refine rt_ald rfl l0 ?_
          refine ow_gf rfl rfl rfl hlen rfl ?_
          refine rt_ild rfl l1 ?_
          refine ow_ialN rfl rfl (List.getElem?_set_self (by omega)) (by omega) hlen rfl ?_
          refine RT_step (pc2 := 80) rfl (fun _ _ => rfl) ?_
          refine rt_ald rfl l0 ?_
          refine rt_ild rfl l1 ?_
          refine rt_ico rfl ki_2 ?_
          refine ba_iadd rfl ?_
          rw [n_add]
          refine rt_ald rfl l0 ?_
          refine rt_bip rfl k8_7 ?_
          refine rt_ald rfl l0 ?_
          refine ow_gf rfl rfl rfl hlen rfl ?_
          refine rt_ico rfl ki_1 ?_
          refine ow_ialN rfl rfl hv1 (by omega) hlen rfl ?_
          refine ow_iv1 (l2 := ((180, mcl (Int32.ofNat 0) (Int32.ofNat 0) n lim a2 pl2 (km kd2) nm2 sg2 (Int32.ofNat 0) qm2 wd2 (Int32.ofNat j1) (posb vs o)) :: (181, mtl ts) :: [(182, ia nw), (187, lng nz), (200, ia (li.set (4 * o) (Int32.ofNat 0)))])) rfl rfl rfl rfl hlen rfl rfl rfl (hm2.up (by omega)) rfl ?_
          refine ow_iv1 (l2 := ((180, mcl (Int32.ofNat 0) (Int32.ofNat 0) n lim a2 pl2 (km kd2) nm2 sg2 (Int32.ofNat 0) qm2 wd2 (Int32.ofNat j1) (posb vs o)) :: (181, mtl ts) :: [(182, ia nw), (187, lng nz), (200, ia ((li.set (4 * o) (Int32.ofNat 0)).set (4 * o + 2) (Int32.ofNat j1)))])) rfl rfl rfl rfl hlen rfl rfl rfl ((m_kp1 (ov_hl hlen) (ov_at rfl (ov_lt hlen (by decide))) (ov_at rfl (ov_lt hlen (by decide))) (by (try simp only [List.length_set]); omega) (by omega)).up (by omega)) rfl ?_
          refine bcF_eq rfl (by decide) ?_
          refine rt_ald rfl l0 ?_
          refine rt_ild rfl l1 ?_
          refine rt_ico rfl ki_3 ?_
          refine ba_iadd rfl ?_
          rw [n_add]
          refine rt_ald rfl l0 ?_
          refine ow_iv1 (l2 := ((180, mcl (Int32.ofNat 0) (Int32.ofNat 0) n lim a3 pl3 (km kd3) nm3 sg3 (Int32.ofNat 0) qm3 wd3 (Int32.ofNat 2) (posb vs o)) :: (181, mtl ts) :: [(182, ia nw), (187, lng nz), (200, ia ((li.set (4 * o) (Int32.ofNat 0)).set (4 * o + 2) (Int32.ofNat j1)))])) rfl rfl rfl rfl hlen rfl rfl rfl (hm3.up (by omega)) rfl ?_
          refine ow_iv1 (l2 := ((180, mcl (Int32.ofNat 0) (Int32.ofNat 0) n lim a3 pl3 (km kd3) nm3 sg3 (Int32.ofNat 0) qm3 wd3 (Int32.ofNat 2) (posb vs o)) :: (181, mtl ts) :: [(182, ia nw), (187, lng nz), (200, ia (((li.set (4 * o) (Int32.ofNat 0)).set (4 * o + 2) (Int32.ofNat j1)).set (4 * o + 3) (Int32.ofNat 2)))])) rfl rfl rfl rfl hlen rfl rfl rfl ((m_kp1 (ov_hl hlen) (ov_at rfl (ov_lt hlen (by decide))) (ov_at rfl (ov_lt hlen (by decide))) (by (try simp only [List.length_set]); omega) (by omega)).up (by omega)) rfl ?_
          refine bcF_eq rfl (by decide) ?_
          refine rt_ico rfl ki_1 ?_
          refine RT_step (pc2 := 121) rfl (fun _ _ => rfl) ?_
          exact ow_irt rfl rfl rfl
    | none =>
      have g1 := q1.symm.trans e1
      obtain ⟨T, M, f, hx, hm⟩ := s_ref (bs := bs) (ts := ts) (lim := lim) (po := (posb vs o)) (pl := pl1) (tk := tk) (td := (-1 : Int32)) (fp := fp1) (plM := qm1) t1 (kk := 3) (by decide) (by decide) (Or.inl (by omega))
      obtain ⟨a9, kd9, pl9, w9, le9, nu9, tk9, kk9, am9, fm9, kM9, nm9, sg9, fa9, qm9, wd9, td9, rfl, rfl, f9⟩ := f
      refine Or.inl ⟨tcl n lim a9 kd9 pl9 w9 le9 nu9 tk9 (Int32.ofNat kk9) (Int32.ofNat pl9), mcl (Int32.ofNat 0) (Int32.ofNat 0) n lim am9 fm9 kM9 nm9 sg9 fa9 qm9 wd9 td9 (posb vs o), (li.set (4 * o) (Int32.ofNat 0)), ⟨a9, kd9, pl9, w9, le9, nu9, tk9, kk9, am9, fm9, kM9, nm9, sg9, fa9, qm9, wd9, td9, rfl, rfl, f9⟩, by simp only [List.length_set]; exact ln, fun H hlen => ?_, fun H hlen => ?_⟩
      · have hz : FR 2 71 [.ref 1, .ref 9, .int (Int32.ofNat Dn)] (ov H ((1, tcl n lim a1 kd1 pl1 w1 le1 nu1 tk (Int32.ofNat 0) fp1) :: (2, bcl bs) :: [(3, dcl3 P Dn lw cl id gl bo), (4, lng pn), (5, ia ri), (6, ia lf), (7, ia wa), (8, ia fo), (9, lng dn), (10, ia ha), (11, ia pa), (12, ia bl), (105, bkc o bv), (106, ia u1), (107, ia u2), (108, ia u3), (109, ia u4)])) (some (.int (-1 : Int32)), ov (ov H ((1, tcl n lim a1 kd1 pl1 w1 le1 nu1 tk (Int32.ofNat 0) fp1) :: (2, bcl bs) :: [(3, dcl3 P Dn lw cl id gl bo), (4, lng pn), (5, ia ri), (6, ia lf), (7, ia wa), (8, ia fo), (9, lng dn), (10, ia ha), (11, ia pa), (12, ia bl), (105, bkc o bv), (106, ia u1), (107, ia u2), (108, ia u3), (109, ia u4)])) [(1, tcl n lim a9 kd9 pl9 w9 le9 nu9 tk9 (Int32.ofNat kk9) (Int32.ofNat pl9))]) := by
          refine FR_st2 (l2 := ((1, tcl n lim a9 kd9 pl9 w9 le9 nu9 tk9 (Int32.ofNat kk9) (Int32.ofNat pl9)) :: (2, bcl bs) :: [(3, dcl3 P Dn lw cl id gl bo), (4, lng pn), (5, ia ri), (6, ia lf), (7, ia wa), (8, ia fo), (9, lng dn), (10, ia ha), (11, ia pa), (12, ia bl), (105, bkc o bv), (106, ia u1), (107, ia u2), (108, ia u3), (109, ia u4)])) rfl rfl rfl ?_
          refine RT_step (pc2 := 1) rfl (fun _ _ => rfl) ?_
          refine ow_gf rfl rfl rfl hlen rfl ?_
          refine RT_step (pc2 := 7) rfl (fun _ _ => rfl) ?_
          refine rt_acE rfl (by omega) (by omega) ?_
          refine RT_if c1 ?_
          refine RT_step (pc2 := 19) rfl (fun _ _ => rfl) ?_
          refine RT_step (pc2 := 20) rfl (fun _ _ => rfl) ?_
          refine RT_step (pc2 := 21) rfl (fun _ _ => rfl) ?_
          refine ow_gf rfl rfl rfl hlen rfl ?_
          refine ow_is1 rfl rfl rfl rfl rfl ((x_find9 (ov_hl hlen) (ov_at rfl (ov_lt hlen (by decide))) (by omega) (by omega)).up (by decide)) rfl ?_
          rw [show fdI (fd dn le1 0 Dn 0) = (-1 : Int32) from by rw [e1]; rfl]
          refine RT_step (pc2 := 28) rfl (fun _ _ => rfl) ?_
          refine RT_step (pc2 := 29) rfl (fun _ _ => rfl) ?_
          refine rt_ico rfl ki_m1 ?_
          refine biT_ne rfl rfl ?_
          refine RT_step (pc2 := 34) rfl (fun _ _ => rfl) ?_
          refine rt_ico rfl ki_3 ?_
          refine ow_iv1 rfl rfl rfl rfl hlen rfl rfl rfl ((hx _ (ov_hl hlen) (ov_at rfl (ov_lt hlen (by decide))) (ov_at rfl (ov_lt hlen (by decide)))).up (by decide)) rfl ?_
          refine RT_step (pc2 := 39) rfl (fun _ _ => rfl) ?_
          refine RT_step (pc2 := 40) rfl (fun _ _ => rfl) ?_
          exact ow_irt rfl rfl rfl
        have hy : FR 3 63 [.ref 3, .ref 1] (ov H ((1, tcl n lim a1 kd1 pl1 w1 le1 nu1 tk (Int32.ofNat 0) fp1) :: (2, bcl bs) :: [(3, dcl3 P Dn lw cl id gl bo), (4, lng pn), (5, ia ri), (6, ia lf), (7, ia wa), (8, ia fo), (9, lng dn), (10, ia ha), (11, ia pa), (12, ia bl), (105, bkc o bv), (106, ia u1), (107, ia u2), (108, ia u3), (109, ia u4)])) (some (.int (-1 : Int32)), ov (ov H ((1, tcl n lim a1 kd1 pl1 w1 le1 nu1 tk (Int32.ofNat 0) fp1) :: (2, bcl bs) :: [(3, dcl3 P Dn lw cl id gl bo), (4, lng pn), (5, ia ri), (6, ia lf), (7, ia wa), (8, ia fo), (9, lng dn), (10, ia ha), (11, ia pa), (12, ia bl), (105, bkc o bv), (106, ia u1), (107, ia u2), (108, ia u3), (109, ia u4)])) [(1, tcl n lim a9 kd9 pl9 w9 le9 nu9 tk9 (Int32.ofNat kk9) (Int32.ofNat pl9))]) := by
          refine FR_st2 (l2 := ((1, tcl n lim a9 kd9 pl9 w9 le9 nu9 tk9 (Int32.ofNat kk9) (Int32.ofNat pl9)) :: (2, bcl bs) :: [(3, dcl3 P Dn lw cl id gl bo), (4, lng pn), (5, ia ri), (6, ia lf), (7, ia wa), (8, ia fo), (9, lng dn), (10, ia ha), (11, ia pa), (12, ia bl), (105, bkc o bv), (106, ia u1), (107, ia u2), (108, ia u3), (109, ia u4)])) rfl rfl rfl ?_
          refine RT_step (pc2 := 1) rfl (fun _ _ => rfl) ?_
          refine RT_step (pc2 := 2) rfl (fun _ _ => rfl) ?_
          refine ow_gf rfl rfl rfl hlen rfl ?_
          refine RT_step (pc2 := 6) rfl (fun _ _ => rfl) ?_
          refine ow_gf rfl rfl rfl hlen rfl ?_
          refine ow_is1 (l2 := ((1, tcl n lim a9 kd9 pl9 w9 le9 nu9 tk9 (Int32.ofNat kk9) (Int32.ofNat pl9)) :: (2, bcl bs) :: [(3, dcl3 P Dn lw cl id gl bo), (4, lng pn), (5, ia ri), (6, ia lf), (7, ia wa), (8, ia fo), (9, lng dn), (10, ia ha), (11, ia pa), (12, ia bl), (105, bkc o bv), (106, ia u1), (107, ia u2), (108, ia u3), (109, ia u4)])) rfl rfl rfl rfl rfl (hz.up (by decide)) rfl ?_
          exact ow_irt rfl rfl rfl
        refine FR_st2 (l2 := ((1, tcl n lim a9 kd9 pl9 w9 le9 nu9 tk9 (Int32.ofNat kk9) (Int32.ofNat pl9)) :: (2, bcl bs) :: [(3, dcl3 P Dn lw cl id gl bo), (4, lng pn), (5, ia ri), (6, ia lf), (7, ia wa), (8, ia fo), (9, lng dn), (10, ia ha), (11, ia pa), (12, ia bl), (105, bkc o bv), (106, ia u1), (107, ia u2), (108, ia u3), (109, ia u4)])) rfl rfl rfl ?_
        refine RT_step (pc2 := 1) rfl (fun _ _ => rfl) ?_
        refine ow_iv0 (l2 := ((1, tcl n lim a1 kd1 pl1 w1 le1 nu1 tk (Int32.ofNat 0) fp1) :: (2, bcl bs) :: [(3, dcl3 P Dn lw cl id gl bo), (4, lng pn), (5, ia ri), (6, ia lf), (7, ia wa), (8, ia fo), (9, lng dn), (10, ia ha), (11, ia pa), (12, ia bl), (105, bkc o bv), (106, ia u1), (107, ia u2), (108, ia u3), (109, ia u4)])) rfl rfl rfl rfl hlen rfl rfl rfl ((x1 _ (ov_hl hlen) (ov_at rfl (ov_lt hlen (by decide))) (ov_at rfl (ov_lt hlen (by decide)))).up (by decide)) rfl ?_
        refine RT_step (pc2 := 5) rfl (fun _ _ => rfl) ?_
        refine RT_step (pc2 := 6) rfl (fun _ _ => rfl) ?_
        refine ow_iv1 (l2 := ((1, tcl n lim a9 kd9 pl9 w9 le9 nu9 tk9 (Int32.ofNat kk9) (Int32.ofNat pl9)) :: (2, bcl bs) :: [(3, dcl3 P Dn lw cl id gl bo), (4, lng pn), (5, ia ri), (6, ia lf), (7, ia wa), (8, ia fo), (9, lng dn), (10, ia ha), (11, ia pa), (12, ia bl), (105, bkc o bv), (106, ia u1), (107, ia u2), (108, ia u3), (109, ia u4)])) rfl rfl rfl rfl hlen rfl rfl rfl (hy.up (by decide)) rfl ?_
        refine RT_step (pc2 := 11) rfl (fun _ _ => rfl) ?_
        refine RT_step (pc2 := 13) rfl (fun _ _ => rfl) ?_
        refine rt_ico rfl ki_m1 ?_
        refine biT_ne rfl rfl ?_
        refine rt_ico rfl ki_0 ?_
        exact ow_irt rfl rfl rfl
      · have hm2 : FR 6 257 [.ref 180, .int (Int32.ofNat 7), .int (Int32.ofNat Dn)] (ov H ((180, mcl (Int32.ofNat 0) (Int32.ofNat 0) n lim a1 pl1 (km kd1) nm1 sg1 (Int32.ofNat 0) qm1 wd1 td (posb vs o)) :: (181, mtl ts) :: [(182, ia nw), (187, lng nz), (200, ia (li.set (4 * o) (Int32.ofNat 0)))])) (some (.int (Int32.ofNat 0)), ov (ov H ((180, mcl (Int32.ofNat 0) (Int32.ofNat 0) n lim a1 pl1 (km kd1) nm1 sg1 (Int32.ofNat 0) qm1 wd1 td (posb vs o)) :: (181, mtl ts) :: [(182, ia nw), (187, lng nz), (200, ia (li.set (4 * o) (Int32.ofNat 0)))])) [(180, mcl (Int32.ofNat 0) (Int32.ofNat 0) n lim am9 fm9 kM9 nm9 sg9 fa9 qm9 wd9 td9 (posb vs o))]) := by
          refine FR_st2 (l2 := ((180, mcl (Int32.ofNat 0) (Int32.ofNat 0) n lim am9 fm9 kM9 nm9 sg9 fa9 qm9 wd9 td9 (posb vs o)) :: (181, mtl ts) :: [(182, ia nw), (187, lng nz), (200, ia (li.set (4 * o) (Int32.ofNat 0)))])) rfl rfl rfl ?_
          refine RT_step (pc2 := 1) rfl (fun _ _ => rfl) ?_
          refine ow_iv1 rfl rfl rfl rfl hlen rfl rfl rfl ((m_isName (ov_hl hlen) (ov_at rfl (ov_lt hlen (by decide))) (km_is kd1 t1.2.2.2.1).2.2.2.2.2).up (by omega)) rfl ?_
          refine bcF_ne rfl (b01_t hnm1) ?_
          refine RT_step (pc2 := 14) rfl (fun _ _ => rfl) ?_
          refine RT_step (pc2 := 15) rfl (fun _ _ => rfl) ?_
          refine ow_gf rfl rfl rfl hlen rfl ?_
          refine RT_step (pc2 := 19) rfl (fun _ _ => rfl) ?_
          refine RT_step (pc2 := 20) rfl (fun _ _ => rfl) ?_
          refine RT_step (pc2 := 21) rfl (fun _ _ => rfl) ?_
          refine ow_gf rfl rfl rfl hlen rfl ?_
          refine ow_is1 rfl rfl rfl rfl rfl ((m_find7 (bs0 := 7) (cnt := Dn) (ov_hl hlen) (ov_at rfl (ov_lt hlen (by decide))) (by omega) (by omega)).up (by omega)) rfl ?_
          rw [show fdI (fd nz wd1 7 Dn 0) = (-1 : Int32) from by rw [g1]; rfl]
          refine ow_pf (l2 := ((180, mcl (Int32.ofNat 0) (Int32.ofNat 0) n lim a1 pl1 (km kd1) nm1 sg1 (Int32.ofNat 0) qm1 wd1 (-1 : Int32) (posb vs o)) :: (181, mtl ts) :: [(182, ia nw), (187, lng nz), (200, ia (li.set (4 * o) (Int32.ofNat 0)))])) rfl rfl rfl rfl rfl hlen rfl rfl ?_
          refine RT_step (pc2 := 31) rfl (fun _ _ => rfl) ?_
          refine ow_gf rfl rfl rfl hlen rfl ?_
          refine rt_ico rfl ki_m1 ?_
          refine biT_ne rfl rfl ?_
          refine RT_step (pc2 := 39) rfl (fun _ _ => rfl) ?_
          refine rt_ico rfl ki_3 ?_
          refine ow_iv1 (l2 := ((180, mcl (Int32.ofNat 0) (Int32.ofNat 0) n lim am9 fm9 kM9 nm9 sg9 fa9 qm9 wd9 td9 (posb vs o)) :: (181, mtl ts) :: [(182, ia nw), (187, lng nz), (200, ia (li.set (4 * o) (Int32.ofNat 0)))])) rfl rfl rfl rfl hlen rfl rfl rfl ((hm _ (ov_hl hlen) (ov_at rfl (ov_lt hlen (by decide))) (ov_at rfl (ov_lt hlen (by decide)))).up (by omega)) rfl ?_
          exact ow_irt rfl rfl rfl
        refine FR_st2 (l2 := ((180, mcl (Int32.ofNat 0) (Int32.ofNat 0) n lim am9 fm9 kM9 nm9 sg9 fa9 qm9 wd9 td9 (posb vs o)) :: (181, mtl ts) :: [(182, ia nw), (187, lng nz), (200, ia (li.set (4 * o) (Int32.ofNat 0)))])) rfl rfl rfl ?_
        refine rt_bip rfl k8_8 ?_
        refine RT_step (pc2 := 3) rfl (fun _ _ => rfl) ?_
        refine m_vl (z := Int32.ofNat (4 * o)) hlen (km_is kd t.2.2.2.1).2.2.2.2.2 5 8 _ rfl rfl rfl rfl (fun L2 l0 l1 lw => ?_)
        rw [wj_le t 5 8 (by decide), jv] at lw
        refine rt_ild rfl lw ?_
        refine rt_bip rfl k8_12 ?_
        refine biT_le rfl (n_le (by decide) (by decide)) ?_
        refine rt_ald rfl l0 ?_
        refine ow_gf rfl rfl rfl hlen rfl ?_
        refine rt_ild rfl l1 ?_
        refine rt_ild rfl lw ?_
        refine rt_bip rfl k8_8 ?_
        refine ba_isub rfl ?_
        rw [show Int32.ofNat 8 - Int32.ofNat 8 = Int32.ofNat 0 from rfl]
        refine ow_iasN (l2 := ((180, mcl (Int32.ofNat 0) (Int32.ofNat 0) n lim a pl (km kd) nm sg (Int32.ofNat 0) qm wd td (posb vs o)) :: (181, mtl ts) :: [(182, ia nw), (187, lng nz), (200, ia (li.set (4 * o) (Int32.ofNat 0)))])) rfl rfl (by omega) (by omega) hlen rfl rfl ?_
        refine rt_ald rfl l0 ?_
        refine ow_iv0 (l2 := ((180, mcl (Int32.ofNat 0) (Int32.ofNat 0) n lim a1 pl1 (km kd1) nm1 sg1 (Int32.ofNat 0) qm1 wd1 td (posb vs o)) :: (181, mtl ts) :: [(182, ia nw), (187, lng nz), (200, ia (li.set (4 * o) (Int32.ofNat 0)))])) rfl rfl rfl rfl hlen rfl rfl rfl ((m1 _ (ov_hl hlen) (ov_at rfl (ov_lt hlen (by decide))) (ov_at rfl (ov_lt hlen (by decide)))).up (by omega)) rfl ?_
        refine rt_ald rfl l0 ?_
        refine ow_gf rfl rfl rfl hlen rfl ?_
        refine rt_ild rfl l1 ?_
        refine ow_ialN rfl rfl (List.getElem?_set_self (by omega)) (by omega) hlen rfl ?_
        refine RT_step (pc2 := 80) rfl (fun _ _ => rfl) ?_
        refine rt_ald rfl l0 ?_
        refine rt_ild rfl l1 ?_
        refine rt_ico rfl ki_2 ?_
        refine ba_iadd rfl ?_
        rw [n_add]
        refine rt_ald rfl l0 ?_
        refine rt_bip rfl k8_7 ?_
        refine rt_ald rfl l0 ?_
        refine ow_gf rfl rfl rfl hlen rfl ?_
        refine rt_ico rfl ki_1 ?_
        refine ow_ialN rfl rfl hv1 (by omega) hlen rfl ?_
        refine ow_iv1 (l2 := ((180, mcl (Int32.ofNat 0) (Int32.ofNat 0) n lim am9 fm9 kM9 nm9 sg9 fa9 qm9 wd9 td9 (posb vs o)) :: (181, mtl ts) :: [(182, ia nw), (187, lng nz), (200, ia (li.set (4 * o) (Int32.ofNat 0)))])) rfl rfl rfl rfl hlen rfl rfl rfl (hm2.up (by omega)) rfl ?_
        refine ow_iv1 (l2 := ((180, mcl (Int32.ofNat 0) (Int32.ofNat 0) n lim am9 fm9 kM9 nm9 sg9 fa9 qm9 wd9 td9 (posb vs o)) :: (181, mtl ts) :: [(182, ia nw), (187, lng nz), (200, ia (li.set (4 * o) (Int32.ofNat 0)))])) rfl rfl rfl rfl hlen rfl rfl rfl (m_kp0.up (by omega)) rfl ?_
        refine bcT_eq rfl rfl ?_
        refine rt_ico rfl ki_0 ?_
        exact ow_irt rfl rfl rfl
  · have hnm1 : (Nat.beq (km kd1) 2 && nmB wd1 30 0) = false := by rw [w_nm t1]; exact decide_eq_false c1
    obtain ⟨T, M, f, hx, hm⟩ := s_ref (bs := bs) (ts := ts) (lim := lim) (po := (posb vs o)) (pl := pl1) (tk := tk) (td := td) (fp := fp1) (plM := qm1) t1 (kk := 1) (by decide) (by decide) (Or.inr rfl)
    obtain ⟨a9, kd9, pl9, w9, le9, nu9, tk9, kk9, am9, fm9, kM9, nm9, sg9, fa9, qm9, wd9, td9, rfl, rfl, f9⟩ := f
    refine Or.inl ⟨tcl n lim a9 kd9 pl9 w9 le9 nu9 tk9 (Int32.ofNat kk9) (Int32.ofNat pl9), mcl (Int32.ofNat 0) (Int32.ofNat 0) n lim am9 fm9 kM9 nm9 sg9 fa9 qm9 wd9 td9 (posb vs o), (li.set (4 * o) (Int32.ofNat 0)), ⟨a9, kd9, pl9, w9, le9, nu9, tk9, kk9, am9, fm9, kM9, nm9, sg9, fa9, qm9, wd9, td9, rfl, rfl, f9⟩, by simp only [List.length_set]; exact ln, fun H hlen => ?_, fun H hlen => ?_⟩
    · have hz : FR 2 71 [.ref 1, .ref 9, .int (Int32.ofNat Dn)] (ov H ((1, tcl n lim a1 kd1 pl1 w1 le1 nu1 tk (Int32.ofNat 0) fp1) :: (2, bcl bs) :: [(3, dcl3 P Dn lw cl id gl bo), (4, lng pn), (5, ia ri), (6, ia lf), (7, ia wa), (8, ia fo), (9, lng dn), (10, ia ha), (11, ia pa), (12, ia bl), (105, bkc o bv), (106, ia u1), (107, ia u2), (108, ia u3), (109, ia u4)])) (some (.int (-1 : Int32)), ov (ov H ((1, tcl n lim a1 kd1 pl1 w1 le1 nu1 tk (Int32.ofNat 0) fp1) :: (2, bcl bs) :: [(3, dcl3 P Dn lw cl id gl bo), (4, lng pn), (5, ia ri), (6, ia lf), (7, ia wa), (8, ia fo), (9, lng dn), (10, ia ha), (11, ia pa), (12, ia bl), (105, bkc o bv), (106, ia u1), (107, ia u2), (108, ia u3), (109, ia u4)])) [(1, tcl n lim a9 kd9 pl9 w9 le9 nu9 tk9 (Int32.ofNat kk9) (Int32.ofNat pl9))]) := by
        refine FR_st2 (l2 := ((1, tcl n lim a9 kd9 pl9 w9 le9 nu9 tk9 (Int32.ofNat kk9) (Int32.ofNat pl9)) :: (2, bcl bs) :: [(3, dcl3 P Dn lw cl id gl bo), (4, lng pn), (5, ia ri), (6, ia lf), (7, ia wa), (8, ia fo), (9, lng dn), (10, ia ha), (11, ia pa), (12, ia bl), (105, bkc o bv), (106, ia u1), (107, ia u2), (108, ia u3), (109, ia u4)])) rfl rfl rfl ?_
        refine RT_step (pc2 := 1) rfl (fun _ _ => rfl) ?_
        refine ow_gf rfl rfl rfl hlen rfl ?_
        refine RT_step (pc2 := 7) rfl (fun _ _ => rfl) ?_
        refine rt_acE rfl (by omega) (by omega) ?_
        refine RT_el c1 ?_
        refine RT_step (pc2 := 11) rfl (fun _ _ => rfl) ?_
        refine rt_ico rfl ki_1 ?_
        refine ow_iv1 rfl rfl rfl rfl hlen rfl rfl rfl ((hx _ (ov_hl hlen) (ov_at rfl (ov_lt hlen (by decide))) (ov_at rfl (ov_lt hlen (by decide)))).up (by decide)) rfl ?_
        refine RT_step (pc2 := 16) rfl (fun _ _ => rfl) ?_
        refine rt_ico rfl ki_m1 ?_
        exact ow_irt rfl rfl rfl
      have hy : FR 3 63 [.ref 3, .ref 1] (ov H ((1, tcl n lim a1 kd1 pl1 w1 le1 nu1 tk (Int32.ofNat 0) fp1) :: (2, bcl bs) :: [(3, dcl3 P Dn lw cl id gl bo), (4, lng pn), (5, ia ri), (6, ia lf), (7, ia wa), (8, ia fo), (9, lng dn), (10, ia ha), (11, ia pa), (12, ia bl), (105, bkc o bv), (106, ia u1), (107, ia u2), (108, ia u3), (109, ia u4)])) (some (.int (-1 : Int32)), ov (ov H ((1, tcl n lim a1 kd1 pl1 w1 le1 nu1 tk (Int32.ofNat 0) fp1) :: (2, bcl bs) :: [(3, dcl3 P Dn lw cl id gl bo), (4, lng pn), (5, ia ri), (6, ia lf), (7, ia wa), (8, ia fo), (9, lng dn), (10, ia ha), (11, ia pa), (12, ia bl), (105, bkc o bv), (106, ia u1), (107, ia u2), (108, ia u3), (109, ia u4)])) [(1, tcl n lim a9 kd9 pl9 w9 le9 nu9 tk9 (Int32.ofNat kk9) (Int32.ofNat pl9))]) := by
        refine FR_st2 (l2 := ((1, tcl n lim a9 kd9 pl9 w9 le9 nu9 tk9 (Int32.ofNat kk9) (Int32.ofNat pl9)) :: (2, bcl bs) :: [(3, dcl3 P Dn lw cl id gl bo), (4, lng pn), (5, ia ri), (6, ia lf), (7, ia wa), (8, ia fo), (9, lng dn), (10, ia ha), (11, ia pa), (12, ia bl), (105, bkc o bv), (106, ia u1), (107, ia u2), (108, ia u3), (109, ia u4)])) rfl rfl rfl ?_
        refine RT_step (pc2 := 1) rfl (fun _ _ => rfl) ?_
        refine RT_step (pc2 := 2) rfl (fun _ _ => rfl) ?_
        refine ow_gf rfl rfl rfl hlen rfl ?_
        refine RT_step (pc2 := 6) rfl (fun _ _ => rfl) ?_
        refine ow_gf rfl rfl rfl hlen rfl ?_
        refine ow_is1 (l2 := ((1, tcl n lim a9 kd9 pl9 w9 le9 nu9 tk9 (Int32.ofNat kk9) (Int32.ofNat pl9)) :: (2, bcl bs) :: [(3, dcl3 P Dn lw cl id gl bo), (4, lng pn), (5, ia ri), (6, ia lf), (7, ia wa), (8, ia fo), (9, lng dn), (10, ia ha), (11, ia pa), (12, ia bl), (105, bkc o bv), (106, ia u1), (107, ia u2), (108, ia u3), (109, ia u4)])) rfl rfl rfl rfl rfl (hz.up (by decide)) rfl ?_
        exact ow_irt rfl rfl rfl
      refine FR_st2 (l2 := ((1, tcl n lim a9 kd9 pl9 w9 le9 nu9 tk9 (Int32.ofNat kk9) (Int32.ofNat pl9)) :: (2, bcl bs) :: [(3, dcl3 P Dn lw cl id gl bo), (4, lng pn), (5, ia ri), (6, ia lf), (7, ia wa), (8, ia fo), (9, lng dn), (10, ia ha), (11, ia pa), (12, ia bl), (105, bkc o bv), (106, ia u1), (107, ia u2), (108, ia u3), (109, ia u4)])) rfl rfl rfl ?_
      refine RT_step (pc2 := 1) rfl (fun _ _ => rfl) ?_
      refine ow_iv0 (l2 := ((1, tcl n lim a1 kd1 pl1 w1 le1 nu1 tk (Int32.ofNat 0) fp1) :: (2, bcl bs) :: [(3, dcl3 P Dn lw cl id gl bo), (4, lng pn), (5, ia ri), (6, ia lf), (7, ia wa), (8, ia fo), (9, lng dn), (10, ia ha), (11, ia pa), (12, ia bl), (105, bkc o bv), (106, ia u1), (107, ia u2), (108, ia u3), (109, ia u4)])) rfl rfl rfl rfl hlen rfl rfl rfl ((x1 _ (ov_hl hlen) (ov_at rfl (ov_lt hlen (by decide))) (ov_at rfl (ov_lt hlen (by decide)))).up (by decide)) rfl ?_
      refine RT_step (pc2 := 5) rfl (fun _ _ => rfl) ?_
      refine RT_step (pc2 := 6) rfl (fun _ _ => rfl) ?_
      refine ow_iv1 (l2 := ((1, tcl n lim a9 kd9 pl9 w9 le9 nu9 tk9 (Int32.ofNat kk9) (Int32.ofNat pl9)) :: (2, bcl bs) :: [(3, dcl3 P Dn lw cl id gl bo), (4, lng pn), (5, ia ri), (6, ia lf), (7, ia wa), (8, ia fo), (9, lng dn), (10, ia ha), (11, ia pa), (12, ia bl), (105, bkc o bv), (106, ia u1), (107, ia u2), (108, ia u3), (109, ia u4)])) rfl rfl rfl rfl hlen rfl rfl rfl (hy.up (by decide)) rfl ?_
      refine RT_step (pc2 := 11) rfl (fun _ _ => rfl) ?_
      refine RT_step (pc2 := 13) rfl (fun _ _ => rfl) ?_
      refine rt_ico rfl ki_m1 ?_
      refine biT_ne rfl rfl ?_
      refine rt_ico rfl ki_0 ?_
      exact ow_irt rfl rfl rfl
    · have hm2 : FR 6 257 [.ref 180, .int (Int32.ofNat 7), .int (Int32.ofNat Dn)] (ov H ((180, mcl (Int32.ofNat 0) (Int32.ofNat 0) n lim a1 pl1 (km kd1) nm1 sg1 (Int32.ofNat 0) qm1 wd1 td (posb vs o)) :: (181, mtl ts) :: [(182, ia nw), (187, lng nz), (200, ia (li.set (4 * o) (Int32.ofNat 0)))])) (some (.int (Int32.ofNat 0)), ov (ov H ((180, mcl (Int32.ofNat 0) (Int32.ofNat 0) n lim a1 pl1 (km kd1) nm1 sg1 (Int32.ofNat 0) qm1 wd1 td (posb vs o)) :: (181, mtl ts) :: [(182, ia nw), (187, lng nz), (200, ia (li.set (4 * o) (Int32.ofNat 0)))])) [(180, mcl (Int32.ofNat 0) (Int32.ofNat 0) n lim am9 fm9 kM9 nm9 sg9 fa9 qm9 wd9 td9 (posb vs o))]) := by
        refine FR_st2 (l2 := ((180, mcl (Int32.ofNat 0) (Int32.ofNat 0) n lim am9 fm9 kM9 nm9 sg9 fa9 qm9 wd9 td9 (posb vs o)) :: (181, mtl ts) :: [(182, ia nw), (187, lng nz), (200, ia (li.set (4 * o) (Int32.ofNat 0)))])) rfl rfl rfl ?_
        refine RT_step (pc2 := 1) rfl (fun _ _ => rfl) ?_
        refine ow_iv1 rfl rfl rfl rfl hlen rfl rfl rfl ((m_isName (ov_hl hlen) (ov_at rfl (ov_lt hlen (by decide))) (km_is kd1 t1.2.2.2.1).2.2.2.2.2).up (by omega)) rfl ?_
        refine bcT_ne rfl (b01_f hnm1) ?_
        refine RT_step (pc2 := 8) rfl (fun _ _ => rfl) ?_
        refine rt_ico rfl ki_1 ?_
        refine ow_iv1 (l2 := ((180, mcl (Int32.ofNat 0) (Int32.ofNat 0) n lim am9 fm9 kM9 nm9 sg9 fa9 qm9 wd9 td9 (posb vs o)) :: (181, mtl ts) :: [(182, ia nw), (187, lng nz), (200, ia (li.set (4 * o) (Int32.ofNat 0)))])) rfl rfl rfl rfl hlen rfl rfl rfl ((hm _ (ov_hl hlen) (ov_at rfl (ov_lt hlen (by decide))) (ov_at rfl (ov_lt hlen (by decide)))).up (by omega)) rfl ?_
        exact ow_irt rfl rfl rfl
      refine FR_st2 (l2 := ((180, mcl (Int32.ofNat 0) (Int32.ofNat 0) n lim am9 fm9 kM9 nm9 sg9 fa9 qm9 wd9 td9 (posb vs o)) :: (181, mtl ts) :: [(182, ia nw), (187, lng nz), (200, ia (li.set (4 * o) (Int32.ofNat 0)))])) rfl rfl rfl ?_
      refine rt_bip rfl k8_8 ?_
      refine RT_step (pc2 := 3) rfl (fun _ _ => rfl) ?_
      refine m_vl (z := Int32.ofNat (4 * o)) hlen (km_is kd t.2.2.2.1).2.2.2.2.2 5 8 _ rfl rfl rfl rfl (fun L2 l0 l1 lw => ?_)
      rw [wj_le t 5 8 (by decide), jv] at lw
      refine rt_ild rfl lw ?_
      refine rt_bip rfl k8_12 ?_
      refine biT_le rfl (n_le (by decide) (by decide)) ?_
      refine rt_ald rfl l0 ?_
      refine ow_gf rfl rfl rfl hlen rfl ?_
      refine rt_ild rfl l1 ?_
      refine rt_ild rfl lw ?_
      refine rt_bip rfl k8_8 ?_
      refine ba_isub rfl ?_
      rw [show Int32.ofNat 8 - Int32.ofNat 8 = Int32.ofNat 0 from rfl]
      refine ow_iasN (l2 := ((180, mcl (Int32.ofNat 0) (Int32.ofNat 0) n lim a pl (km kd) nm sg (Int32.ofNat 0) qm wd td (posb vs o)) :: (181, mtl ts) :: [(182, ia nw), (187, lng nz), (200, ia (li.set (4 * o) (Int32.ofNat 0)))])) rfl rfl (by omega) (by omega) hlen rfl rfl ?_
      refine rt_ald rfl l0 ?_
      refine ow_iv0 (l2 := ((180, mcl (Int32.ofNat 0) (Int32.ofNat 0) n lim a1 pl1 (km kd1) nm1 sg1 (Int32.ofNat 0) qm1 wd1 td (posb vs o)) :: (181, mtl ts) :: [(182, ia nw), (187, lng nz), (200, ia (li.set (4 * o) (Int32.ofNat 0)))])) rfl rfl rfl rfl hlen rfl rfl rfl ((m1 _ (ov_hl hlen) (ov_at rfl (ov_lt hlen (by decide))) (ov_at rfl (ov_lt hlen (by decide)))).up (by omega)) rfl ?_
      refine rt_ald rfl l0 ?_
      refine ow_gf rfl rfl rfl hlen rfl ?_
      refine rt_ild rfl l1 ?_
      refine ow_ialN rfl rfl (List.getElem?_set_self (by omega)) (by omega) hlen rfl ?_
      refine RT_step (pc2 := 80) rfl (fun _ _ => rfl) ?_
      refine rt_ald rfl l0 ?_
      refine rt_ild rfl l1 ?_
      refine rt_ico rfl ki_2 ?_
      refine ba_iadd rfl ?_
      rw [n_add]
      refine rt_ald rfl l0 ?_
      refine rt_bip rfl k8_7 ?_
      refine rt_ald rfl l0 ?_
      refine ow_gf rfl rfl rfl hlen rfl ?_
      refine rt_ico rfl ki_1 ?_
      refine ow_ialN rfl rfl hv1 (by omega) hlen rfl ?_
      refine ow_iv1 (l2 := ((180, mcl (Int32.ofNat 0) (Int32.ofNat 0) n lim am9 fm9 kM9 nm9 sg9 fa9 qm9 wd9 td9 (posb vs o)) :: (181, mtl ts) :: [(182, ia nw), (187, lng nz), (200, ia (li.set (4 * o) (Int32.ofNat 0)))])) rfl rfl rfl rfl hlen rfl rfl rfl (hm2.up (by omega)) rfl ?_
      refine ow_iv1 (l2 := ((180, mcl (Int32.ofNat 0) (Int32.ofNat 0) n lim am9 fm9 kM9 nm9 sg9 fa9 qm9 wd9 td9 (posb vs o)) :: (181, mtl ts) :: [(182, ia nw), (187, lng nz), (200, ia (li.set (4 * o) (Int32.ofNat 0)))])) rfl rfl rfl rfl hlen rfl rfl rfl (m_kp0.up (by omega)) rfl ?_
      refine bcT_eq rfl rfl ?_
      refine rt_ico rfl ki_0 ?_
      exact ow_irt rfl rfl rfl
theorem b_weds3 {B : Nat → Nat} {bs ts : List Int32} {vs : Nat → Value} {bv : Nat → Int32} {n lim : Nat} {k a kd pl w : Nat} {le : Int64} {nu tk td fp nm sg qm : Int32} {wd : Int64} {o : Nat} {u1 u2 u3 u4 nw li : List Int32} {nz : List Int64} {P : Nat} {Dn : Nat} {lw : Int32} {cl : Int32} {id : Int32} {gl : Nat} {bo : Nat} {pn : List Int64} {ri : List Int32} {lf : List Int32} {wa : List Int32} {fo : List Int32} {dn : List Int64} {ha : List Int32} {pa : List Int32} {bl : List Int32} (hB : BY bs B) (hM : MY ts B) (hb : ∀ i, B i < 256) (hn : n ≤ 940) (hl : lim ≤ 940) (t : TF k n a kd w le nu nm sg wd) (hkd : kd ≠ 0) (hk4 : kd ≠ 4) (jv : wjw w 5 8 = 9) (hP : P ≤ 7) (hDn : Dn ≤ 8) (lp : pn.length = 7) (ld : dn.length = 8) (lz : nz.length = 15) (hv : nw[0]? = some (Int32.ofNat P)) (hv1 : nw[1]? = some (Int32.ofNat Dn)) (hN : ∀ i, i < P → ∃ ss, nok ss ∧ pn[i]? = some (p5 ss) ∧ nz[0 + i]? = some (p27 ss)) (hN2 : ∀ i, i < Dn → ∃ ss, nok ss ∧ dn[i]? = some (p5 ss) ∧ nz[7 + i]? = some (p27 ss)) (bx : BX o u1 u2 u3 u4) (ln : li.length = 160) (ho : o < 40) {z : Int32} : (∃ (T M : AE) (li2 : List Int32), FC n lim (posb vs o) T M ∧ li2.length = 160 ∧ LSb 8 55 [.ref 105, .ref 1, .ref 3, .int z] 10 250 [.ref 180, .int (Int32.ofNat (4 * o))] ((1, tcl n lim a kd pl w le nu tk (Int32.ofNat 0) fp) :: (2, bcl bs) :: [(3, dcl3 P Dn lw cl id gl bo), (4, lng pn), (5, ia ri), (6, ia lf), (7, ia wa), (8, ia fo), (9, lng dn), (10, ia ha), (11, ia pa), (12, ia bl), (105, bkc o bv), (106, ia u1), (107, ia u2), (108, ia u3), (109, ia u4)]) ((180, mcl (Int32.ofNat 0) (Int32.ofNat 0) n lim a pl (km kd) nm sg (Int32.ofNat 0) qm wd td (posb vs o)) :: (181, mtl ts) :: [(182, ia nw), (187, lng nz), (200, ia li)]) (.int (Int32.ofNat 0)) (.int (Int32.ofNat 0)) [(1, T)] [(180, M), (200, ia li2)]) ∨ (∃ (k2 : Nat) (tk2 td2 : Int32) (T M : AE) (v1 v2 v3 v4 li2 : List Int32), TC n lim (posb vs o) k2 tk2 td2 T M ∧ BX (o + 1) v1 v2 v3 v4 ∧ li2.length = 160 ∧ LSb 8 55 [.ref 105, .ref 1, .ref 3, .int z] 10 250 [.ref 180, .int (Int32.ofNat (4 * o))] ((1, tcl n lim a kd pl w le nu tk (Int32.ofNat 0) fp) :: (2, bcl bs) :: [(3, dcl3 P Dn lw cl id gl bo), (4, lng pn), (5, ia ri), (6, ia lf), (7, ia wa), (8, ia fo), (9, lng dn), (10, ia ha), (11, ia pa), (12, ia bl), (105, bkc o bv), (106, ia u1), (107, ia u2), (108, ia u3), (109, ia u4)]) ((180, mcl (Int32.ofNat 0) (Int32.ofNat 0) n lim a pl (km kd) nm sg (Int32.ofNat 0) qm wd td (posb vs o)) :: (181, mtl ts) :: [(182, ia nw), (187, lng nz), (200, ia li)]) (.int (Int32.ofNat 1)) (.int (Int32.ofNat 1)) [(1, T), (105, bkc (o + 1) bv), (106, ia v1), (107, ia v2), (108, ia v3), (109, ia v4)] [(180, M), (200, ia li2)]) := by
  obtain ⟨T1, M1, c1, x1, m1⟩ := s_adv hB hM hb hn hl (po := (posb vs o)) (pl := pl) (tk := tk) (td := td) (fp := fp) (plM := qm) t hkd hk4
  obtain ⟨a1, kd1, pl1, w1, le1, nu1, fp1, nm1, sg1, qm1, wd1, rfl, rfl, t1⟩ := c1
  have hw1 := t1.2.2.2.2.1
  by_cases c1 : w1 = 1
  · have hk11 := w_k1 t1 (by omega)
    obtain ⟨rs1, r1, r2, r3, r4, r5, r6⟩ := t1.2.2.2.2.2.1 hk11
    have hr : nok rs1 := ⟨r1, r2, r3⟩
    have hnm1 : (Nat.beq (km kd1) 2 && nmB wd1 30 0) = true := by rw [w_nm t1, c1]; rfl
    have q1 := nm_eq hr hN
    rw [← r4, ← r5] at q1
    clear r1 r2 r3 r4 r5 r6 hr
    cases e1 : fd pn le1 0 P 0 with
    | some j1 =>
      have g1 := q1.symm.trans e1
      have hj1 := (fd_lt e1).2
      obtain ⟨T2, M2, c2, x2, m2⟩ := s_adv hB hM hb hn hl (po := (posb vs o)) (pl := pl1) (tk := tk) (td := (Int32.ofNat j1)) (fp := fp1) (plM := qm1) t1 (by omega) (by omega)
      obtain ⟨a2, kd2, pl2, w2, le2, nu2, fp2, nm2, sg2, qm2, wd2, rfl, rfl, t2⟩ := c2
      have hw2 := t2.2.2.2.2.1
      obtain ⟨v1, v2, v3, v4, bx2, hadd⟩ := bx_add bx ho (Int32.ofNat 10) z (Int32.ofNat j1) (Int32.ofNat 0)
      refine Or.inr ⟨_, tk, (Int32.ofNat j1), tcl n lim a2 kd2 pl2 w2 le2 nu2 tk (Int32.ofNat 0) fp2, mcl (Int32.ofNat 0) (Int32.ofNat 0) n lim a2 pl2 (km kd2) nm2 sg2 (Int32.ofNat 0) qm2 wd2 (Int32.ofNat j1) (posb vs o), v1, v2, v3, v4, ((li.set (4 * o) (Int32.ofNat 1)).set (4 * o + 2) (Int32.ofNat j1)), tf_td t2, bx2, by simp only [List.length_set]; exact ln, fun H hlen => ?_, fun H hlen => ?_⟩
      · have hz : FR 2 71 [.ref 1, .ref 4, .int (Int32.ofNat P)] (ov H ((1, tcl n lim a1 kd1 pl1 w1 le1 nu1 tk (Int32.ofNat 0) fp1) :: (2, bcl bs) :: [(3, dcl3 P Dn lw cl id gl bo), (4, lng pn), (5, ia ri), (6, ia lf), (7, ia wa), (8, ia fo), (9, lng dn), (10, ia ha), (11, ia pa), (12, ia bl), (105, bkc o bv), (106, ia u1), (107, ia u2), (108, ia u3), (109, ia u4)])) (some (.int (Int32.ofNat j1)), ov (ov H ((1, tcl n lim a1 kd1 pl1 w1 le1 nu1 tk (Int32.ofNat 0) fp1) :: (2, bcl bs) :: [(3, dcl3 P Dn lw cl id gl bo), (4, lng pn), (5, ia ri), (6, ia lf), (7, ia wa), (8, ia fo), (9, lng dn), (10, ia ha), (11, ia pa), (12, ia bl), (105, bkc o bv), (106, ia u1), (107, ia u2), (108, ia u3), (109, ia u4)])) [(1, tcl n lim a1 kd1 pl1 w1 le1 nu1 tk (Int32.ofNat 0) fp1)]) := by
          refine FR_st2 (l2 := ((1, tcl n lim a1 kd1 pl1 w1 le1 nu1 tk (Int32.ofNat 0) fp1) :: (2, bcl bs) :: [(3, dcl3 P Dn lw cl id gl bo), (4, lng pn), (5, ia ri), (6, ia lf), (7, ia wa), (8, ia fo), (9, lng dn), (10, ia ha), (11, ia pa), (12, ia bl), (105, bkc o bv), (106, ia u1), (107, ia u2), (108, ia u3), (109, ia u4)])) rfl rfl rfl ?_
          refine RT_step (pc2 := 1) rfl (fun _ _ => rfl) ?_
          refine ow_gf rfl rfl rfl hlen rfl ?_
          refine RT_step (pc2 := 7) rfl (fun _ _ => rfl) ?_
          refine rt_acE rfl (by omega) (by omega) ?_
          refine RT_if c1 ?_
          refine RT_step (pc2 := 19) rfl (fun _ _ => rfl) ?_
          refine RT_step (pc2 := 20) rfl (fun _ _ => rfl) ?_
          refine RT_step (pc2 := 21) rfl (fun _ _ => rfl) ?_
          refine ow_gf rfl rfl rfl hlen rfl ?_
          refine ow_is1 rfl rfl rfl rfl rfl ((x_find4 (ov_hl hlen) (ov_at rfl (ov_lt hlen (by decide))) (by omega) (by omega)).up (by decide)) rfl ?_
          rw [show fdI (fd pn le1 0 P 0) = Int32.ofNat j1 from by rw [e1]; rfl]
          refine RT_step (pc2 := 28) rfl (fun _ _ => rfl) ?_
          refine RT_step (pc2 := 29) rfl (fun _ _ => rfl) ?_
          refine rt_ico rfl ki_m1 ?_
          refine biF_ne rfl (n_m1 (by omega)) ?_
          refine RT_step (pc2 := 40) rfl (fun _ _ => rfl) ?_
          exact ow_irt rfl rfl rfl
        have hy : FR 3 73 [.ref 3, .ref 1] (ov H ((1, tcl n lim a1 kd1 pl1 w1 le1 nu1 tk (Int32.ofNat 0) fp1) :: (2, bcl bs) :: [(3, dcl3 P Dn lw cl id gl bo), (4, lng pn), (5, ia ri), (6, ia lf), (7, ia wa), (8, ia fo), (9, lng dn), (10, ia ha), (11, ia pa), (12, ia bl), (105, bkc o bv), (106, ia u1), (107, ia u2), (108, ia u3), (109, ia u4)])) (some (.int (Int32.ofNat j1)), ov (ov H ((1, tcl n lim a1 kd1 pl1 w1 le1 nu1 tk (Int32.ofNat 0) fp1) :: (2, bcl bs) :: [(3, dcl3 P Dn lw cl id gl bo), (4, lng pn), (5, ia ri), (6, ia lf), (7, ia wa), (8, ia fo), (9, lng dn), (10, ia ha), (11, ia pa), (12, ia bl), (105, bkc o bv), (106, ia u1), (107, ia u2), (108, ia u3), (109, ia u4)])) [(1, tcl n lim a1 kd1 pl1 w1 le1 nu1 tk (Int32.ofNat 0) fp1)]) := by
          refine FR_st2 (l2 := ((1, tcl n lim a1 kd1 pl1 w1 le1 nu1 tk (Int32.ofNat 0) fp1) :: (2, bcl bs) :: [(3, dcl3 P Dn lw cl id gl bo), (4, lng pn), (5, ia ri), (6, ia lf), (7, ia wa), (8, ia fo), (9, lng dn), (10, ia ha), (11, ia pa), (12, ia bl), (105, bkc o bv), (106, ia u1), (107, ia u2), (108, ia u3), (109, ia u4)])) rfl rfl rfl ?_
          refine RT_step (pc2 := 1) rfl (fun _ _ => rfl) ?_
          refine RT_step (pc2 := 2) rfl (fun _ _ => rfl) ?_
          refine ow_gf rfl rfl rfl hlen rfl ?_
          refine RT_step (pc2 := 6) rfl (fun _ _ => rfl) ?_
          refine ow_gf rfl rfl rfl hlen rfl ?_
          refine ow_is1 (l2 := ((1, tcl n lim a1 kd1 pl1 w1 le1 nu1 tk (Int32.ofNat 0) fp1) :: (2, bcl bs) :: [(3, dcl3 P Dn lw cl id gl bo), (4, lng pn), (5, ia ri), (6, ia lf), (7, ia wa), (8, ia fo), (9, lng dn), (10, ia ha), (11, ia pa), (12, ia bl), (105, bkc o bv), (106, ia u1), (107, ia u2), (108, ia u3), (109, ia u4)])) rfl rfl rfl rfl rfl (hz.up (by decide)) rfl ?_
          exact ow_irt rfl rfl rfl
        refine FR_st2 (l2 := ((1, tcl n lim a2 kd2 pl2 w2 le2 nu2 tk (Int32.ofNat 0) fp2) :: (2, bcl bs) :: [(3, dcl3 P Dn lw cl id gl bo), (4, lng pn), (5, ia ri), (6, ia lf), (7, ia wa), (8, ia fo), (9, lng dn), (10, ia ha), (11, ia pa), (12, ia bl), (105, bkc (o + 1) bv), (106, ia v1), (107, ia v2), (108, ia v3), (109, ia v4)])) rfl rfl rfl ?_
        refine RT_step (pc2 := 1) rfl (fun _ _ => rfl) ?_
        refine ow_iv0 (l2 := ((1, tcl n lim a1 kd1 pl1 w1 le1 nu1 tk (Int32.ofNat 0) fp1) :: (2, bcl bs) :: [(3, dcl3 P Dn lw cl id gl bo), (4, lng pn), (5, ia ri), (6, ia lf), (7, ia wa), (8, ia fo), (9, lng dn), (10, ia ha), (11, ia pa), (12, ia bl), (105, bkc o bv), (106, ia u1), (107, ia u2), (108, ia u3), (109, ia u4)])) rfl rfl rfl rfl hlen rfl rfl rfl ((x1 _ (ov_hl hlen) (ov_at rfl (ov_lt hlen (by decide))) (ov_at rfl (ov_lt hlen (by decide)))).up (by decide)) rfl ?_
        refine RT_step (pc2 := 5) rfl (fun _ _ => rfl) ?_
        refine RT_step (pc2 := 6) rfl (fun _ _ => rfl) ?_
        refine ow_iv1 (l2 := ((1, tcl n lim a1 kd1 pl1 w1 le1 nu1 tk (Int32.ofNat 0) fp1) :: (2, bcl bs) :: [(3, dcl3 P Dn lw cl id gl bo), (4, lng pn), (5, ia ri), (6, ia lf), (7, ia wa), (8, ia fo), (9, lng dn), (10, ia ha), (11, ia pa), (12, ia bl), (105, bkc o bv), (106, ia u1), (107, ia u2), (108, ia u3), (109, ia u4)])) rfl rfl rfl rfl hlen rfl rfl rfl (hy.up (by decide)) rfl ?_
        refine RT_step (pc2 := 11) rfl (fun _ _ => rfl) ?_
        refine RT_step (pc2 := 13) rfl (fun _ _ => rfl) ?_
        refine rt_ico rfl ki_m1 ?_
        refine biF_ne rfl (n_m1 (by omega)) ?_
        refine RT_step (pc2 := 20) rfl (fun _ _ => rfl) ?_
        refine rt_bip rfl k8_10 ?_
        refine RT_step (pc2 := 23) rfl (fun _ _ => rfl) ?_
        refine RT_step (pc2 := 25) rfl (fun _ _ => rfl) ?_
        refine rt_ico rfl ki_0 ?_
        refine ow_iv0 (l2 := ((1, tcl n lim a1 kd1 pl1 w1 le1 nu1 tk (Int32.ofNat 0) fp1) :: (2, bcl bs) :: [(3, dcl3 P Dn lw cl id gl bo), (4, lng pn), (5, ia ri), (6, ia lf), (7, ia wa), (8, ia fo), (9, lng dn), (10, ia ha), (11, ia pa), (12, ia bl), (105, bkc (o + 1) bv), (106, ia v1), (107, ia v2), (108, ia v3), (109, ia v4)])) rfl rfl rfl rfl hlen rfl rfl rfl ((hadd bv _ (ov_hl hlen) (ov_at rfl (ov_lt hlen (by decide))) (ov_at rfl (ov_lt hlen (by decide))) (ov_at rfl (ov_lt hlen (by decide))) (ov_at rfl (ov_lt hlen (by decide))) (ov_at rfl (ov_lt hlen (by decide)))).up (by decide)) rfl ?_
        refine RT_step (pc2 := 30) rfl (fun _ _ => rfl) ?_
        refine ow_iv0 (l2 := ((1, tcl n lim a2 kd2 pl2 w2 le2 nu2 tk (Int32.ofNat 0) fp2) :: (2, bcl bs) :: [(3, dcl3 P Dn lw cl id gl bo), (4, lng pn), (5, ia ri), (6, ia lf), (7, ia wa), (8, ia fo), (9, lng dn), (10, ia ha), (11, ia pa), (12, ia bl), (105, bkc (o + 1) bv), (106, ia v1), (107, ia v2), (108, ia v3), (109, ia v4)])) rfl rfl rfl rfl hlen rfl rfl rfl ((x2 _ (ov_hl hlen) (ov_at rfl (ov_lt hlen (by decide))) (ov_at rfl (ov_lt hlen (by decide)))).up (by decide)) rfl ?_
        refine rt_ico rfl ki_1 ?_
        exact ow_irt rfl rfl rfl
      · have hm2 : FR 6 257 [.ref 180, .int (Int32.ofNat 0), .int (Int32.ofNat P)] (ov H ((180, mcl (Int32.ofNat 0) (Int32.ofNat 0) n lim a1 pl1 (km kd1) nm1 sg1 (Int32.ofNat 0) qm1 wd1 td (posb vs o)) :: (181, mtl ts) :: [(182, ia nw), (187, lng nz), (200, ia (li.set (4 * o) (Int32.ofNat 1)))])) (some (.int (Int32.ofNat 1)), ov (ov H ((180, mcl (Int32.ofNat 0) (Int32.ofNat 0) n lim a1 pl1 (km kd1) nm1 sg1 (Int32.ofNat 0) qm1 wd1 td (posb vs o)) :: (181, mtl ts) :: [(182, ia nw), (187, lng nz), (200, ia (li.set (4 * o) (Int32.ofNat 1)))])) [(180, mcl (Int32.ofNat 0) (Int32.ofNat 0) n lim a2 pl2 (km kd2) nm2 sg2 (Int32.ofNat 0) qm2 wd2 (Int32.ofNat j1) (posb vs o))]) := by
          refine FR_st2 (l2 := ((180, mcl (Int32.ofNat 0) (Int32.ofNat 0) n lim a2 pl2 (km kd2) nm2 sg2 (Int32.ofNat 0) qm2 wd2 (Int32.ofNat j1) (posb vs o)) :: (181, mtl ts) :: [(182, ia nw), (187, lng nz), (200, ia (li.set (4 * o) (Int32.ofNat 1)))])) rfl rfl rfl ?_
          refine RT_step (pc2 := 1) rfl (fun _ _ => rfl) ?_
          refine ow_iv1 rfl rfl rfl rfl hlen rfl rfl rfl ((m_isName (ov_hl hlen) (ov_at rfl (ov_lt hlen (by decide))) (km_is kd1 t1.2.2.2.1).2.2.2.2.2).up (by omega)) rfl ?_
          refine bcF_ne rfl (b01_t hnm1) ?_
          refine RT_step (pc2 := 14) rfl (fun _ _ => rfl) ?_
          refine RT_step (pc2 := 15) rfl (fun _ _ => rfl) ?_
          refine ow_gf rfl rfl rfl hlen rfl ?_
          refine RT_step (pc2 := 19) rfl (fun _ _ => rfl) ?_
          refine RT_step (pc2 := 20) rfl (fun _ _ => rfl) ?_
          refine RT_step (pc2 := 21) rfl (fun _ _ => rfl) ?_
          refine ow_gf rfl rfl rfl hlen rfl ?_
          refine ow_is1 rfl rfl rfl rfl rfl ((m_find7 (bs0 := 0) (cnt := P) (ov_hl hlen) (ov_at rfl (ov_lt hlen (by decide))) (by omega) (by omega)).up (by omega)) rfl ?_
          rw [show fdI (fd nz wd1 0 P 0) = Int32.ofNat j1 from by rw [g1]; rfl]
          refine ow_pf (l2 := ((180, mcl (Int32.ofNat 0) (Int32.ofNat 0) n lim a1 pl1 (km kd1) nm1 sg1 (Int32.ofNat 0) qm1 wd1 (Int32.ofNat j1) (posb vs o)) :: (181, mtl ts) :: [(182, ia nw), (187, lng nz), (200, ia (li.set (4 * o) (Int32.ofNat 1)))])) rfl rfl rfl rfl rfl hlen rfl rfl ?_
          refine RT_step (pc2 := 31) rfl (fun _ _ => rfl) ?_
          refine ow_gf rfl rfl rfl hlen rfl ?_
          refine rt_ico rfl ki_m1 ?_
          refine biF_ne rfl (n_m1 (by omega)) ?_
          refine RT_step (pc2 := 45) rfl (fun _ _ => rfl) ?_
          refine ow_iv0 (l2 := ((180, mcl (Int32.ofNat 0) (Int32.ofNat 0) n lim a2 pl2 (km kd2) nm2 sg2 (Int32.ofNat 0) qm2 wd2 (Int32.ofNat j1) (posb vs o)) :: (181, mtl ts) :: [(182, ia nw), (187, lng nz), (200, ia (li.set (4 * o) (Int32.ofNat 1)))])) rfl rfl rfl rfl hlen rfl rfl rfl ((m2 _ (ov_hl hlen) (ov_at rfl (ov_lt hlen (by decide))) (ov_at rfl (ov_lt hlen (by decide)))).up (by omega)) rfl ?_
          refine rt_ico rfl ki_1 ?_
          exact ow_irt rfl rfl rfl
        refine FR_st2 (l2 := ((180, mcl (Int32.ofNat 0) (Int32.ofNat 0) n lim a2 pl2 (km kd2) nm2 sg2 (Int32.ofNat 0) qm2 wd2 (Int32.ofNat j1) (posb vs o)) :: (181, mtl ts) :: [(182, ia nw), (187, lng nz), (200, ia ((li.set (4 * o) (Int32.ofNat 1)).set (4 * o + 2) (Int32.ofNat j1)))])) rfl rfl rfl ?_
        refine rt_bip rfl k8_8 ?_
        refine RT_step (pc2 := 3) rfl (fun _ _ => rfl) ?_
        refine m_vl (z := Int32.ofNat (4 * o)) hlen (km_is kd t.2.2.2.1).2.2.2.2.2 5 8 _ rfl rfl rfl rfl (fun L2 l0 l1 lw => ?_)
        rw [wj_le t 5 8 (by decide), jv] at lw
        refine rt_ild rfl lw ?_
        refine rt_bip rfl k8_12 ?_
        refine biT_le rfl (n_le (by decide) (by decide)) ?_
        refine rt_ald rfl l0 ?_
        refine ow_gf rfl rfl rfl hlen rfl ?_
        refine rt_ild rfl l1 ?_
        refine rt_ild rfl lw ?_
        refine rt_bip rfl k8_8 ?_
        refine ba_isub rfl ?_
        rw [show Int32.ofNat 9 - Int32.ofNat 8 = Int32.ofNat 1 from rfl]
        refine ow_iasN (l2 := ((180, mcl (Int32.ofNat 0) (Int32.ofNat 0) n lim a pl (km kd) nm sg (Int32.ofNat 0) qm wd td (posb vs o)) :: (181, mtl ts) :: [(182, ia nw), (187, lng nz), (200, ia (li.set (4 * o) (Int32.ofNat 1)))])) rfl rfl (by omega) (by omega) hlen rfl rfl ?_
        refine rt_ald rfl l0 ?_
        refine ow_iv0 (l2 := ((180, mcl (Int32.ofNat 0) (Int32.ofNat 0) n lim a1 pl1 (km kd1) nm1 sg1 (Int32.ofNat 0) qm1 wd1 td (posb vs o)) :: (181, mtl ts) :: [(182, ia nw), (187, lng nz), (200, ia (li.set (4 * o) (Int32.ofNat 1)))])) rfl rfl rfl rfl hlen rfl rfl rfl ((m1 _ (ov_hl hlen) (ov_at rfl (ov_lt hlen (by decide))) (ov_at rfl (ov_lt hlen (by decide)))).up (by omega)) rfl ?_
        refine rt_ald rfl l0 ?_
        refine ow_gf rfl rfl rfl hlen rfl ?_
        refine rt_ild rfl l1 ?_
        refine ow_ialN rfl rfl (List.getElem?_set_self (by omega)) (by omega) hlen rfl ?_
        refine RT_step (pc2 := 122) rfl (fun _ _ => rfl) ?_
        refine rt_ald rfl l0 ?_
        refine rt_ild rfl l1 ?_
        refine rt_ico rfl ki_2 ?_
        refine ba_iadd rfl ?_
        rw [n_add]
        refine rt_ald rfl l0 ?_
        refine rt_ico rfl ki_0 ?_
        refine rt_ald rfl l0 ?_
        refine ow_gf rfl rfl rfl hlen rfl ?_
        refine rt_ico rfl ki_0 ?_
        refine ow_ialN rfl rfl hv (by omega) hlen rfl ?_
        refine ow_iv1 (l2 := ((180, mcl (Int32.ofNat 0) (Int32.ofNat 0) n lim a2 pl2 (km kd2) nm2 sg2 (Int32.ofNat 0) qm2 wd2 (Int32.ofNat j1) (posb vs o)) :: (181, mtl ts) :: [(182, ia nw), (187, lng nz), (200, ia (li.set (4 * o) (Int32.ofNat 1)))])) rfl rfl rfl rfl hlen rfl rfl rfl (hm2.up (by omega)) rfl ?_
        refine ow_iv1 (l2 := ((180, mcl (Int32.ofNat 0) (Int32.ofNat 0) n lim a2 pl2 (km kd2) nm2 sg2 (Int32.ofNat 0) qm2 wd2 (Int32.ofNat j1) (posb vs o)) :: (181, mtl ts) :: [(182, ia nw), (187, lng nz), (200, ia ((li.set (4 * o) (Int32.ofNat 1)).set (4 * o + 2) (Int32.ofNat j1)))])) rfl rfl rfl rfl hlen rfl rfl rfl ((m_kp1 (ov_hl hlen) (ov_at rfl (ov_lt hlen (by decide))) (ov_at rfl (ov_lt hlen (by decide))) (by (try simp only [List.length_set]); omega) (by omega)).up (by omega)) rfl ?_
        exact ow_irt rfl rfl rfl
    | none =>
      have g1 := q1.symm.trans e1
      obtain ⟨T, M, f, hx, hm⟩ := s_ref (bs := bs) (ts := ts) (lim := lim) (po := (posb vs o)) (pl := pl1) (tk := tk) (td := (-1 : Int32)) (fp := fp1) (plM := qm1) t1 (kk := 3) (by decide) (by decide) (Or.inl (by omega))
      obtain ⟨a9, kd9, pl9, w9, le9, nu9, tk9, kk9, am9, fm9, kM9, nm9, sg9, fa9, qm9, wd9, td9, rfl, rfl, f9⟩ := f
      refine Or.inl ⟨tcl n lim a9 kd9 pl9 w9 le9 nu9 tk9 (Int32.ofNat kk9) (Int32.ofNat pl9), mcl (Int32.ofNat 0) (Int32.ofNat 0) n lim am9 fm9 kM9 nm9 sg9 fa9 qm9 wd9 td9 (posb vs o), (li.set (4 * o) (Int32.ofNat 1)), ⟨a9, kd9, pl9, w9, le9, nu9, tk9, kk9, am9, fm9, kM9, nm9, sg9, fa9, qm9, wd9, td9, rfl, rfl, f9⟩, by simp only [List.length_set]; exact ln, fun H hlen => ?_, fun H hlen => ?_⟩
      · have hz : FR 2 71 [.ref 1, .ref 4, .int (Int32.ofNat P)] (ov H ((1, tcl n lim a1 kd1 pl1 w1 le1 nu1 tk (Int32.ofNat 0) fp1) :: (2, bcl bs) :: [(3, dcl3 P Dn lw cl id gl bo), (4, lng pn), (5, ia ri), (6, ia lf), (7, ia wa), (8, ia fo), (9, lng dn), (10, ia ha), (11, ia pa), (12, ia bl), (105, bkc o bv), (106, ia u1), (107, ia u2), (108, ia u3), (109, ia u4)])) (some (.int (-1 : Int32)), ov (ov H ((1, tcl n lim a1 kd1 pl1 w1 le1 nu1 tk (Int32.ofNat 0) fp1) :: (2, bcl bs) :: [(3, dcl3 P Dn lw cl id gl bo), (4, lng pn), (5, ia ri), (6, ia lf), (7, ia wa), (8, ia fo), (9, lng dn), (10, ia ha), (11, ia pa), (12, ia bl), (105, bkc o bv), (106, ia u1), (107, ia u2), (108, ia u3), (109, ia u4)])) [(1, tcl n lim a9 kd9 pl9 w9 le9 nu9 tk9 (Int32.ofNat kk9) (Int32.ofNat pl9))]) := by
          refine FR_st2 (l2 := ((1, tcl n lim a9 kd9 pl9 w9 le9 nu9 tk9 (Int32.ofNat kk9) (Int32.ofNat pl9)) :: (2, bcl bs) :: [(3, dcl3 P Dn lw cl id gl bo), (4, lng pn), (5, ia ri), (6, ia lf), (7, ia wa), (8, ia fo), (9, lng dn), (10, ia ha), (11, ia pa), (12, ia bl), (105, bkc o bv), (106, ia u1), (107, ia u2), (108, ia u3), (109, ia u4)])) rfl rfl rfl ?_
          refine RT_step (pc2 := 1) rfl (fun _ _ => rfl) ?_
          refine ow_gf rfl rfl rfl hlen rfl ?_
          refine RT_step (pc2 := 7) rfl (fun _ _ => rfl) ?_
          refine rt_acE rfl (by omega) (by omega) ?_
          refine RT_if c1 ?_
          refine RT_step (pc2 := 19) rfl (fun _ _ => rfl) ?_
          refine RT_step (pc2 := 20) rfl (fun _ _ => rfl) ?_
          refine RT_step (pc2 := 21) rfl (fun _ _ => rfl) ?_
          refine ow_gf rfl rfl rfl hlen rfl ?_
          refine ow_is1 rfl rfl rfl rfl rfl ((x_find4 (ov_hl hlen) (ov_at rfl (ov_lt hlen (by decide))) (by omega) (by omega)).up (by decide)) rfl ?_
          rw [show fdI (fd pn le1 0 P 0) = (-1 : Int32) from by rw [e1]; rfl]
          refine RT_step (pc2 := 28) rfl (fun _ _ => rfl) ?_
          refine RT_step (pc2 := 29) rfl (fun _ _ => rfl) ?_
          refine rt_ico rfl ki_m1 ?_
          refine biT_ne rfl rfl ?_
          refine RT_step (pc2 := 34) rfl (fun _ _ => rfl) ?_
          refine rt_ico rfl ki_3 ?_
          refine ow_iv1 rfl rfl rfl rfl hlen rfl rfl rfl ((hx _ (ov_hl hlen) (ov_at rfl (ov_lt hlen (by decide))) (ov_at rfl (ov_lt hlen (by decide)))).up (by decide)) rfl ?_
          refine RT_step (pc2 := 39) rfl (fun _ _ => rfl) ?_
          refine RT_step (pc2 := 40) rfl (fun _ _ => rfl) ?_
          exact ow_irt rfl rfl rfl
        have hy : FR 3 73 [.ref 3, .ref 1] (ov H ((1, tcl n lim a1 kd1 pl1 w1 le1 nu1 tk (Int32.ofNat 0) fp1) :: (2, bcl bs) :: [(3, dcl3 P Dn lw cl id gl bo), (4, lng pn), (5, ia ri), (6, ia lf), (7, ia wa), (8, ia fo), (9, lng dn), (10, ia ha), (11, ia pa), (12, ia bl), (105, bkc o bv), (106, ia u1), (107, ia u2), (108, ia u3), (109, ia u4)])) (some (.int (-1 : Int32)), ov (ov H ((1, tcl n lim a1 kd1 pl1 w1 le1 nu1 tk (Int32.ofNat 0) fp1) :: (2, bcl bs) :: [(3, dcl3 P Dn lw cl id gl bo), (4, lng pn), (5, ia ri), (6, ia lf), (7, ia wa), (8, ia fo), (9, lng dn), (10, ia ha), (11, ia pa), (12, ia bl), (105, bkc o bv), (106, ia u1), (107, ia u2), (108, ia u3), (109, ia u4)])) [(1, tcl n lim a9 kd9 pl9 w9 le9 nu9 tk9 (Int32.ofNat kk9) (Int32.ofNat pl9))]) := by
          refine FR_st2 (l2 := ((1, tcl n lim a9 kd9 pl9 w9 le9 nu9 tk9 (Int32.ofNat kk9) (Int32.ofNat pl9)) :: (2, bcl bs) :: [(3, dcl3 P Dn lw cl id gl bo), (4, lng pn), (5, ia ri), (6, ia lf), (7, ia wa), (8, ia fo), (9, lng dn), (10, ia ha), (11, ia pa), (12, ia bl), (105, bkc o bv), (106, ia u1), (107, ia u2), (108, ia u3), (109, ia u4)])) rfl rfl rfl ?_
          refine RT_step (pc2 := 1) rfl (fun _ _ => rfl) ?_
          refine RT_step (pc2 := 2) rfl (fun _ _ => rfl) ?_
          refine ow_gf rfl rfl rfl hlen rfl ?_
          refine RT_step (pc2 := 6) rfl (fun _ _ => rfl) ?_
          refine ow_gf rfl rfl rfl hlen rfl ?_
          refine ow_is1 (l2 := ((1, tcl n lim a9 kd9 pl9 w9 le9 nu9 tk9 (Int32.ofNat kk9) (Int32.ofNat pl9)) :: (2, bcl bs) :: [(3, dcl3 P Dn lw cl id gl bo), (4, lng pn), (5, ia ri), (6, ia lf), (7, ia wa), (8, ia fo), (9, lng dn), (10, ia ha), (11, ia pa), (12, ia bl), (105, bkc o bv), (106, ia u1), (107, ia u2), (108, ia u3), (109, ia u4)])) rfl rfl rfl rfl rfl (hz.up (by decide)) rfl ?_
          exact ow_irt rfl rfl rfl
        refine FR_st2 (l2 := ((1, tcl n lim a9 kd9 pl9 w9 le9 nu9 tk9 (Int32.ofNat kk9) (Int32.ofNat pl9)) :: (2, bcl bs) :: [(3, dcl3 P Dn lw cl id gl bo), (4, lng pn), (5, ia ri), (6, ia lf), (7, ia wa), (8, ia fo), (9, lng dn), (10, ia ha), (11, ia pa), (12, ia bl), (105, bkc o bv), (106, ia u1), (107, ia u2), (108, ia u3), (109, ia u4)])) rfl rfl rfl ?_
        refine RT_step (pc2 := 1) rfl (fun _ _ => rfl) ?_
        refine ow_iv0 (l2 := ((1, tcl n lim a1 kd1 pl1 w1 le1 nu1 tk (Int32.ofNat 0) fp1) :: (2, bcl bs) :: [(3, dcl3 P Dn lw cl id gl bo), (4, lng pn), (5, ia ri), (6, ia lf), (7, ia wa), (8, ia fo), (9, lng dn), (10, ia ha), (11, ia pa), (12, ia bl), (105, bkc o bv), (106, ia u1), (107, ia u2), (108, ia u3), (109, ia u4)])) rfl rfl rfl rfl hlen rfl rfl rfl ((x1 _ (ov_hl hlen) (ov_at rfl (ov_lt hlen (by decide))) (ov_at rfl (ov_lt hlen (by decide)))).up (by decide)) rfl ?_
        refine RT_step (pc2 := 5) rfl (fun _ _ => rfl) ?_
        refine RT_step (pc2 := 6) rfl (fun _ _ => rfl) ?_
        refine ow_iv1 (l2 := ((1, tcl n lim a9 kd9 pl9 w9 le9 nu9 tk9 (Int32.ofNat kk9) (Int32.ofNat pl9)) :: (2, bcl bs) :: [(3, dcl3 P Dn lw cl id gl bo), (4, lng pn), (5, ia ri), (6, ia lf), (7, ia wa), (8, ia fo), (9, lng dn), (10, ia ha), (11, ia pa), (12, ia bl), (105, bkc o bv), (106, ia u1), (107, ia u2), (108, ia u3), (109, ia u4)])) rfl rfl rfl rfl hlen rfl rfl rfl (hy.up (by decide)) rfl ?_
        refine RT_step (pc2 := 11) rfl (fun _ _ => rfl) ?_
        refine RT_step (pc2 := 13) rfl (fun _ _ => rfl) ?_
        refine rt_ico rfl ki_m1 ?_
        refine biT_ne rfl rfl ?_
        refine rt_ico rfl ki_0 ?_
        exact ow_irt rfl rfl rfl
      · have hm2 : FR 6 257 [.ref 180, .int (Int32.ofNat 0), .int (Int32.ofNat P)] (ov H ((180, mcl (Int32.ofNat 0) (Int32.ofNat 0) n lim a1 pl1 (km kd1) nm1 sg1 (Int32.ofNat 0) qm1 wd1 td (posb vs o)) :: (181, mtl ts) :: [(182, ia nw), (187, lng nz), (200, ia (li.set (4 * o) (Int32.ofNat 1)))])) (some (.int (Int32.ofNat 0)), ov (ov H ((180, mcl (Int32.ofNat 0) (Int32.ofNat 0) n lim a1 pl1 (km kd1) nm1 sg1 (Int32.ofNat 0) qm1 wd1 td (posb vs o)) :: (181, mtl ts) :: [(182, ia nw), (187, lng nz), (200, ia (li.set (4 * o) (Int32.ofNat 1)))])) [(180, mcl (Int32.ofNat 0) (Int32.ofNat 0) n lim am9 fm9 kM9 nm9 sg9 fa9 qm9 wd9 td9 (posb vs o))]) := by
          refine FR_st2 (l2 := ((180, mcl (Int32.ofNat 0) (Int32.ofNat 0) n lim am9 fm9 kM9 nm9 sg9 fa9 qm9 wd9 td9 (posb vs o)) :: (181, mtl ts) :: [(182, ia nw), (187, lng nz), (200, ia (li.set (4 * o) (Int32.ofNat 1)))])) rfl rfl rfl ?_
          refine RT_step (pc2 := 1) rfl (fun _ _ => rfl) ?_
          refine ow_iv1 rfl rfl rfl rfl hlen rfl rfl rfl ((m_isName (ov_hl hlen) (ov_at rfl (ov_lt hlen (by decide))) (km_is kd1 t1.2.2.2.1).2.2.2.2.2).up (by omega)) rfl ?_
          refine bcF_ne rfl (b01_t hnm1) ?_
          refine RT_step (pc2 := 14) rfl (fun _ _ => rfl) ?_
          refine RT_step (pc2 := 15) rfl (fun _ _ => rfl) ?_
          refine ow_gf rfl rfl rfl hlen rfl ?_
          refine RT_step (pc2 := 19) rfl (fun _ _ => rfl) ?_
          refine RT_step (pc2 := 20) rfl (fun _ _ => rfl) ?_
          refine RT_step (pc2 := 21) rfl (fun _ _ => rfl) ?_
          refine ow_gf rfl rfl rfl hlen rfl ?_
          refine ow_is1 rfl rfl rfl rfl rfl ((m_find7 (bs0 := 0) (cnt := P) (ov_hl hlen) (ov_at rfl (ov_lt hlen (by decide))) (by omega) (by omega)).up (by omega)) rfl ?_
          rw [show fdI (fd nz wd1 0 P 0) = (-1 : Int32) from by rw [g1]; rfl]
          refine ow_pf (l2 := ((180, mcl (Int32.ofNat 0) (Int32.ofNat 0) n lim a1 pl1 (km kd1) nm1 sg1 (Int32.ofNat 0) qm1 wd1 (-1 : Int32) (posb vs o)) :: (181, mtl ts) :: [(182, ia nw), (187, lng nz), (200, ia (li.set (4 * o) (Int32.ofNat 1)))])) rfl rfl rfl rfl rfl hlen rfl rfl ?_
          refine RT_step (pc2 := 31) rfl (fun _ _ => rfl) ?_
          refine ow_gf rfl rfl rfl hlen rfl ?_
          refine rt_ico rfl ki_m1 ?_
          refine biT_ne rfl rfl ?_
          refine RT_step (pc2 := 39) rfl (fun _ _ => rfl) ?_
          refine rt_ico rfl ki_3 ?_
          refine ow_iv1 (l2 := ((180, mcl (Int32.ofNat 0) (Int32.ofNat 0) n lim am9 fm9 kM9 nm9 sg9 fa9 qm9 wd9 td9 (posb vs o)) :: (181, mtl ts) :: [(182, ia nw), (187, lng nz), (200, ia (li.set (4 * o) (Int32.ofNat 1)))])) rfl rfl rfl rfl hlen rfl rfl rfl ((hm _ (ov_hl hlen) (ov_at rfl (ov_lt hlen (by decide))) (ov_at rfl (ov_lt hlen (by decide)))).up (by omega)) rfl ?_
          exact ow_irt rfl rfl rfl
        refine FR_st2 (l2 := ((180, mcl (Int32.ofNat 0) (Int32.ofNat 0) n lim am9 fm9 kM9 nm9 sg9 fa9 qm9 wd9 td9 (posb vs o)) :: (181, mtl ts) :: [(182, ia nw), (187, lng nz), (200, ia (li.set (4 * o) (Int32.ofNat 1)))])) rfl rfl rfl ?_
        refine rt_bip rfl k8_8 ?_
        refine RT_step (pc2 := 3) rfl (fun _ _ => rfl) ?_
        refine m_vl (z := Int32.ofNat (4 * o)) hlen (km_is kd t.2.2.2.1).2.2.2.2.2 5 8 _ rfl rfl rfl rfl (fun L2 l0 l1 lw => ?_)
        rw [wj_le t 5 8 (by decide), jv] at lw
        refine rt_ild rfl lw ?_
        refine rt_bip rfl k8_12 ?_
        refine biT_le rfl (n_le (by decide) (by decide)) ?_
        refine rt_ald rfl l0 ?_
        refine ow_gf rfl rfl rfl hlen rfl ?_
        refine rt_ild rfl l1 ?_
        refine rt_ild rfl lw ?_
        refine rt_bip rfl k8_8 ?_
        refine ba_isub rfl ?_
        rw [show Int32.ofNat 9 - Int32.ofNat 8 = Int32.ofNat 1 from rfl]
        refine ow_iasN (l2 := ((180, mcl (Int32.ofNat 0) (Int32.ofNat 0) n lim a pl (km kd) nm sg (Int32.ofNat 0) qm wd td (posb vs o)) :: (181, mtl ts) :: [(182, ia nw), (187, lng nz), (200, ia (li.set (4 * o) (Int32.ofNat 1)))])) rfl rfl (by omega) (by omega) hlen rfl rfl ?_
        refine rt_ald rfl l0 ?_
        refine ow_iv0 (l2 := ((180, mcl (Int32.ofNat 0) (Int32.ofNat 0) n lim a1 pl1 (km kd1) nm1 sg1 (Int32.ofNat 0) qm1 wd1 td (posb vs o)) :: (181, mtl ts) :: [(182, ia nw), (187, lng nz), (200, ia (li.set (4 * o) (Int32.ofNat 1)))])) rfl rfl rfl rfl hlen rfl rfl rfl ((m1 _ (ov_hl hlen) (ov_at rfl (ov_lt hlen (by decide))) (ov_at rfl (ov_lt hlen (by decide)))).up (by omega)) rfl ?_
        refine rt_ald rfl l0 ?_
        refine ow_gf rfl rfl rfl hlen rfl ?_
        refine rt_ild rfl l1 ?_
        refine ow_ialN rfl rfl (List.getElem?_set_self (by omega)) (by omega) hlen rfl ?_
        refine RT_step (pc2 := 122) rfl (fun _ _ => rfl) ?_
        refine rt_ald rfl l0 ?_
        refine rt_ild rfl l1 ?_
        refine rt_ico rfl ki_2 ?_
        refine ba_iadd rfl ?_
        rw [n_add]
        refine rt_ald rfl l0 ?_
        refine rt_ico rfl ki_0 ?_
        refine rt_ald rfl l0 ?_
        refine ow_gf rfl rfl rfl hlen rfl ?_
        refine rt_ico rfl ki_0 ?_
        refine ow_ialN rfl rfl hv (by omega) hlen rfl ?_
        refine ow_iv1 (l2 := ((180, mcl (Int32.ofNat 0) (Int32.ofNat 0) n lim am9 fm9 kM9 nm9 sg9 fa9 qm9 wd9 td9 (posb vs o)) :: (181, mtl ts) :: [(182, ia nw), (187, lng nz), (200, ia (li.set (4 * o) (Int32.ofNat 1)))])) rfl rfl rfl rfl hlen rfl rfl rfl (hm2.up (by omega)) rfl ?_
        refine ow_iv1 (l2 := ((180, mcl (Int32.ofNat 0) (Int32.ofNat 0) n lim am9 fm9 kM9 nm9 sg9 fa9 qm9 wd9 td9 (posb vs o)) :: (181, mtl ts) :: [(182, ia nw), (187, lng nz), (200, ia (li.set (4 * o) (Int32.ofNat 1)))])) rfl rfl rfl rfl hlen rfl rfl rfl (m_kp0.up (by omega)) rfl ?_
        exact ow_irt rfl rfl rfl
  · have hnm1 : (Nat.beq (km kd1) 2 && nmB wd1 30 0) = false := by rw [w_nm t1]; exact decide_eq_false c1
    obtain ⟨T, M, f, hx, hm⟩ := s_ref (bs := bs) (ts := ts) (lim := lim) (po := (posb vs o)) (pl := pl1) (tk := tk) (td := td) (fp := fp1) (plM := qm1) t1 (kk := 1) (by decide) (by decide) (Or.inr rfl)
    obtain ⟨a9, kd9, pl9, w9, le9, nu9, tk9, kk9, am9, fm9, kM9, nm9, sg9, fa9, qm9, wd9, td9, rfl, rfl, f9⟩ := f
    refine Or.inl ⟨tcl n lim a9 kd9 pl9 w9 le9 nu9 tk9 (Int32.ofNat kk9) (Int32.ofNat pl9), mcl (Int32.ofNat 0) (Int32.ofNat 0) n lim am9 fm9 kM9 nm9 sg9 fa9 qm9 wd9 td9 (posb vs o), (li.set (4 * o) (Int32.ofNat 1)), ⟨a9, kd9, pl9, w9, le9, nu9, tk9, kk9, am9, fm9, kM9, nm9, sg9, fa9, qm9, wd9, td9, rfl, rfl, f9⟩, by simp only [List.length_set]; exact ln, fun H hlen => ?_, fun H hlen => ?_⟩
    · have hz : FR 2 71 [.ref 1, .ref 4, .int (Int32.ofNat P)] (ov H ((1, tcl n lim a1 kd1 pl1 w1 le1 nu1 tk (Int32.ofNat 0) fp1) :: (2, bcl bs) :: [(3, dcl3 P Dn lw cl id gl bo), (4, lng pn), (5, ia ri), (6, ia lf), (7, ia wa), (8, ia fo), (9, lng dn), (10, ia ha), (11, ia pa), (12, ia bl), (105, bkc o bv), (106, ia u1), (107, ia u2), (108, ia u3), (109, ia u4)])) (some (.int (-1 : Int32)), ov (ov H ((1, tcl n lim a1 kd1 pl1 w1 le1 nu1 tk (Int32.ofNat 0) fp1) :: (2, bcl bs) :: [(3, dcl3 P Dn lw cl id gl bo), (4, lng pn), (5, ia ri), (6, ia lf), (7, ia wa), (8, ia fo), (9, lng dn), (10, ia ha), (11, ia pa), (12, ia bl), (105, bkc o bv), (106, ia u1), (107, ia u2), (108, ia u3), (109, ia u4)])) [(1, tcl n lim a9 kd9 pl9 w9 le9 nu9 tk9 (Int32.ofNat kk9) (Int32.ofNat pl9))]) := by
        refine FR_st2 (l2 := ((1, tcl n lim a9 kd9 pl9 w9 le9 nu9 tk9 (Int32.ofNat kk9) (Int32.ofNat pl9)) :: (2, bcl bs) :: [(3, dcl3 P Dn lw cl id gl bo), (4, lng pn), (5, ia ri), (6, ia lf), (7, ia wa), (8, ia fo), (9, lng dn), (10, ia ha), (11, ia pa), (12, ia bl), (105, bkc o bv), (106, ia u1), (107, ia u2), (108, ia u3), (109, ia u4)])) rfl rfl rfl ?_
        refine RT_step (pc2 := 1) rfl (fun _ _ => rfl) ?_
        refine ow_gf rfl rfl rfl hlen rfl ?_
        refine RT_step (pc2 := 7) rfl (fun _ _ => rfl) ?_
        refine rt_acE rfl (by omega) (by omega) ?_
        refine RT_el c1 ?_
        refine RT_step (pc2 := 11) rfl (fun _ _ => rfl) ?_
        refine rt_ico rfl ki_1 ?_
        refine ow_iv1 rfl rfl rfl rfl hlen rfl rfl rfl ((hx _ (ov_hl hlen) (ov_at rfl (ov_lt hlen (by decide))) (ov_at rfl (ov_lt hlen (by decide)))).up (by decide)) rfl ?_
        refine RT_step (pc2 := 16) rfl (fun _ _ => rfl) ?_
        refine rt_ico rfl ki_m1 ?_
        exact ow_irt rfl rfl rfl
      have hy : FR 3 73 [.ref 3, .ref 1] (ov H ((1, tcl n lim a1 kd1 pl1 w1 le1 nu1 tk (Int32.ofNat 0) fp1) :: (2, bcl bs) :: [(3, dcl3 P Dn lw cl id gl bo), (4, lng pn), (5, ia ri), (6, ia lf), (7, ia wa), (8, ia fo), (9, lng dn), (10, ia ha), (11, ia pa), (12, ia bl), (105, bkc o bv), (106, ia u1), (107, ia u2), (108, ia u3), (109, ia u4)])) (some (.int (-1 : Int32)), ov (ov H ((1, tcl n lim a1 kd1 pl1 w1 le1 nu1 tk (Int32.ofNat 0) fp1) :: (2, bcl bs) :: [(3, dcl3 P Dn lw cl id gl bo), (4, lng pn), (5, ia ri), (6, ia lf), (7, ia wa), (8, ia fo), (9, lng dn), (10, ia ha), (11, ia pa), (12, ia bl), (105, bkc o bv), (106, ia u1), (107, ia u2), (108, ia u3), (109, ia u4)])) [(1, tcl n lim a9 kd9 pl9 w9 le9 nu9 tk9 (Int32.ofNat kk9) (Int32.ofNat pl9))]) := by
        refine FR_st2 (l2 := ((1, tcl n lim a9 kd9 pl9 w9 le9 nu9 tk9 (Int32.ofNat kk9) (Int32.ofNat pl9)) :: (2, bcl bs) :: [(3, dcl3 P Dn lw cl id gl bo), (4, lng pn), (5, ia ri), (6, ia lf), (7, ia wa), (8, ia fo), (9, lng dn), (10, ia ha), (11, ia pa), (12, ia bl), (105, bkc o bv), (106, ia u1), (107, ia u2), (108, ia u3), (109, ia u4)])) rfl rfl rfl ?_
        refine RT_step (pc2 := 1) rfl (fun _ _ => rfl) ?_
        refine RT_step (pc2 := 2) rfl (fun _ _ => rfl) ?_
        refine ow_gf rfl rfl rfl hlen rfl ?_
        refine RT_step (pc2 := 6) rfl (fun _ _ => rfl) ?_
        refine ow_gf rfl rfl rfl hlen rfl ?_
        refine ow_is1 (l2 := ((1, tcl n lim a9 kd9 pl9 w9 le9 nu9 tk9 (Int32.ofNat kk9) (Int32.ofNat pl9)) :: (2, bcl bs) :: [(3, dcl3 P Dn lw cl id gl bo), (4, lng pn), (5, ia ri), (6, ia lf), (7, ia wa), (8, ia fo), (9, lng dn), (10, ia ha), (11, ia pa), (12, ia bl), (105, bkc o bv), (106, ia u1), (107, ia u2), (108, ia u3), (109, ia u4)])) rfl rfl rfl rfl rfl (hz.up (by decide)) rfl ?_
        exact ow_irt rfl rfl rfl
      refine FR_st2 (l2 := ((1, tcl n lim a9 kd9 pl9 w9 le9 nu9 tk9 (Int32.ofNat kk9) (Int32.ofNat pl9)) :: (2, bcl bs) :: [(3, dcl3 P Dn lw cl id gl bo), (4, lng pn), (5, ia ri), (6, ia lf), (7, ia wa), (8, ia fo), (9, lng dn), (10, ia ha), (11, ia pa), (12, ia bl), (105, bkc o bv), (106, ia u1), (107, ia u2), (108, ia u3), (109, ia u4)])) rfl rfl rfl ?_
      refine RT_step (pc2 := 1) rfl (fun _ _ => rfl) ?_
      refine ow_iv0 (l2 := ((1, tcl n lim a1 kd1 pl1 w1 le1 nu1 tk (Int32.ofNat 0) fp1) :: (2, bcl bs) :: [(3, dcl3 P Dn lw cl id gl bo), (4, lng pn), (5, ia ri), (6, ia lf), (7, ia wa), (8, ia fo), (9, lng dn), (10, ia ha), (11, ia pa), (12, ia bl), (105, bkc o bv), (106, ia u1), (107, ia u2), (108, ia u3), (109, ia u4)])) rfl rfl rfl rfl hlen rfl rfl rfl ((x1 _ (ov_hl hlen) (ov_at rfl (ov_lt hlen (by decide))) (ov_at rfl (ov_lt hlen (by decide)))).up (by decide)) rfl ?_
      refine RT_step (pc2 := 5) rfl (fun _ _ => rfl) ?_
      refine RT_step (pc2 := 6) rfl (fun _ _ => rfl) ?_
      refine ow_iv1 (l2 := ((1, tcl n lim a9 kd9 pl9 w9 le9 nu9 tk9 (Int32.ofNat kk9) (Int32.ofNat pl9)) :: (2, bcl bs) :: [(3, dcl3 P Dn lw cl id gl bo), (4, lng pn), (5, ia ri), (6, ia lf), (7, ia wa), (8, ia fo), (9, lng dn), (10, ia ha), (11, ia pa), (12, ia bl), (105, bkc o bv), (106, ia u1), (107, ia u2), (108, ia u3), (109, ia u4)])) rfl rfl rfl rfl hlen rfl rfl rfl (hy.up (by decide)) rfl ?_
      refine RT_step (pc2 := 11) rfl (fun _ _ => rfl) ?_
      refine RT_step (pc2 := 13) rfl (fun _ _ => rfl) ?_
      refine rt_ico rfl ki_m1 ?_
      refine biT_ne rfl rfl ?_
      refine rt_ico rfl ki_0 ?_
      exact ow_irt rfl rfl rfl
    · have hm2 : FR 6 257 [.ref 180, .int (Int32.ofNat 0), .int (Int32.ofNat P)] (ov H ((180, mcl (Int32.ofNat 0) (Int32.ofNat 0) n lim a1 pl1 (km kd1) nm1 sg1 (Int32.ofNat 0) qm1 wd1 td (posb vs o)) :: (181, mtl ts) :: [(182, ia nw), (187, lng nz), (200, ia (li.set (4 * o) (Int32.ofNat 1)))])) (some (.int (Int32.ofNat 0)), ov (ov H ((180, mcl (Int32.ofNat 0) (Int32.ofNat 0) n lim a1 pl1 (km kd1) nm1 sg1 (Int32.ofNat 0) qm1 wd1 td (posb vs o)) :: (181, mtl ts) :: [(182, ia nw), (187, lng nz), (200, ia (li.set (4 * o) (Int32.ofNat 1)))])) [(180, mcl (Int32.ofNat 0) (Int32.ofNat 0) n lim am9 fm9 kM9 nm9 sg9 fa9 qm9 wd9 td9 (posb vs o))]) := by
        refine FR_st2 (l2 := ((180, mcl (Int32.ofNat 0) (Int32.ofNat 0) n lim am9 fm9 kM9 nm9 sg9 fa9 qm9 wd9 td9 (posb vs o)) :: (181, mtl ts) :: [(182, ia nw), (187, lng nz), (200, ia (li.set (4 * o) (Int32.ofNat 1)))])) rfl rfl rfl ?_
        refine RT_step (pc2 := 1) rfl (fun _ _ => rfl) ?_
        refine ow_iv1 rfl rfl rfl rfl hlen rfl rfl rfl ((m_isName (ov_hl hlen) (ov_at rfl (ov_lt hlen (by decide))) (km_is kd1 t1.2.2.2.1).2.2.2.2.2).up (by omega)) rfl ?_
        refine bcT_ne rfl (b01_f hnm1) ?_
        refine RT_step (pc2 := 8) rfl (fun _ _ => rfl) ?_
        refine rt_ico rfl ki_1 ?_
        refine ow_iv1 (l2 := ((180, mcl (Int32.ofNat 0) (Int32.ofNat 0) n lim am9 fm9 kM9 nm9 sg9 fa9 qm9 wd9 td9 (posb vs o)) :: (181, mtl ts) :: [(182, ia nw), (187, lng nz), (200, ia (li.set (4 * o) (Int32.ofNat 1)))])) rfl rfl rfl rfl hlen rfl rfl rfl ((hm _ (ov_hl hlen) (ov_at rfl (ov_lt hlen (by decide))) (ov_at rfl (ov_lt hlen (by decide)))).up (by omega)) rfl ?_
        exact ow_irt rfl rfl rfl
      refine FR_st2 (l2 := ((180, mcl (Int32.ofNat 0) (Int32.ofNat 0) n lim am9 fm9 kM9 nm9 sg9 fa9 qm9 wd9 td9 (posb vs o)) :: (181, mtl ts) :: [(182, ia nw), (187, lng nz), (200, ia (li.set (4 * o) (Int32.ofNat 1)))])) rfl rfl rfl ?_
      refine rt_bip rfl k8_8 ?_
      refine RT_step (pc2 := 3) rfl (fun _ _ => rfl) ?_
      refine m_vl (z := Int32.ofNat (4 * o)) hlen (km_is kd t.2.2.2.1).2.2.2.2.2 5 8 _ rfl rfl rfl rfl (fun L2 l0 l1 lw => ?_)
      rw [wj_le t 5 8 (by decide), jv] at lw
      refine rt_ild rfl lw ?_
      refine rt_bip rfl k8_12 ?_
      refine biT_le rfl (n_le (by decide) (by decide)) ?_
      refine rt_ald rfl l0 ?_
      refine ow_gf rfl rfl rfl hlen rfl ?_
      refine rt_ild rfl l1 ?_
      refine rt_ild rfl lw ?_
      refine rt_bip rfl k8_8 ?_
      refine ba_isub rfl ?_
      rw [show Int32.ofNat 9 - Int32.ofNat 8 = Int32.ofNat 1 from rfl]
      refine ow_iasN (l2 := ((180, mcl (Int32.ofNat 0) (Int32.ofNat 0) n lim a pl (km kd) nm sg (Int32.ofNat 0) qm wd td (posb vs o)) :: (181, mtl ts) :: [(182, ia nw), (187, lng nz), (200, ia (li.set (4 * o) (Int32.ofNat 1)))])) rfl rfl (by omega) (by omega) hlen rfl rfl ?_
      refine rt_ald rfl l0 ?_
      refine ow_iv0 (l2 := ((180, mcl (Int32.ofNat 0) (Int32.ofNat 0) n lim a1 pl1 (km kd1) nm1 sg1 (Int32.ofNat 0) qm1 wd1 td (posb vs o)) :: (181, mtl ts) :: [(182, ia nw), (187, lng nz), (200, ia (li.set (4 * o) (Int32.ofNat 1)))])) rfl rfl rfl rfl hlen rfl rfl rfl ((m1 _ (ov_hl hlen) (ov_at rfl (ov_lt hlen (by decide))) (ov_at rfl (ov_lt hlen (by decide)))).up (by omega)) rfl ?_
      refine rt_ald rfl l0 ?_
      refine ow_gf rfl rfl rfl hlen rfl ?_
      refine rt_ild rfl l1 ?_
      refine ow_ialN rfl rfl (List.getElem?_set_self (by omega)) (by omega) hlen rfl ?_
      refine RT_step (pc2 := 122) rfl (fun _ _ => rfl) ?_
      refine rt_ald rfl l0 ?_
      refine rt_ild rfl l1 ?_
      refine rt_ico rfl ki_2 ?_
      refine ba_iadd rfl ?_
      rw [n_add]
      refine rt_ald rfl l0 ?_
      refine rt_ico rfl ki_0 ?_
      refine rt_ald rfl l0 ?_
      refine ow_gf rfl rfl rfl hlen rfl ?_
      refine rt_ico rfl ki_0 ?_
      refine ow_ialN rfl rfl hv (by omega) hlen rfl ?_
      refine ow_iv1 (l2 := ((180, mcl (Int32.ofNat 0) (Int32.ofNat 0) n lim am9 fm9 kM9 nm9 sg9 fa9 qm9 wd9 td9 (posb vs o)) :: (181, mtl ts) :: [(182, ia nw), (187, lng nz), (200, ia (li.set (4 * o) (Int32.ofNat 1)))])) rfl rfl rfl rfl hlen rfl rfl rfl (hm2.up (by omega)) rfl ?_
      refine ow_iv1 (l2 := ((180, mcl (Int32.ofNat 0) (Int32.ofNat 0) n lim am9 fm9 kM9 nm9 sg9 fa9 qm9 wd9 td9 (posb vs o)) :: (181, mtl ts) :: [(182, ia nw), (187, lng nz), (200, ia (li.set (4 * o) (Int32.ofNat 1)))])) rfl rfl rfl rfl hlen rfl rfl rfl (m_kp0.up (by omega)) rfl ?_
      exact ow_irt rfl rfl rfl
theorem b_does13 {B : Nat → Nat} {bs ts : List Int32} {vs : Nat → Value} {bv : Nat → Int32} {n lim : Nat} {k a kd pl w : Nat} {le : Int64} {nu tk td fp nm sg qm : Int32} {wd : Int64} {o : Nat} {u1 u2 u3 u4 nw li : List Int32} {nz : List Int64} {P : Nat} {Dn : Nat} {lw : Int32} {cl : Int32} {id : Int32} {gl : Nat} {bo : Nat} {pn : List Int64} {ri : List Int32} {lf : List Int32} {wa : List Int32} {fo : List Int32} {dn : List Int64} {ha : List Int32} {pa : List Int32} {bl : List Int32} (hB : BY bs B) (hM : MY ts B) (hb : ∀ i, B i < 256) (hn : n ≤ 940) (hl : lim ≤ 940) (t : TF k n a kd w le nu nm sg wd) (hkd : kd ≠ 0) (hk4 : kd ≠ 4) (jv : wjw w 5 8 = 8) (hP : P ≤ 7) (hDn : Dn ≤ 8) (lp : pn.length = 7) (ld : dn.length = 8) (lz : nz.length = 15) (hv : nw[0]? = some (Int32.ofNat P)) (hv1 : nw[1]? = some (Int32.ofNat Dn)) (hN : ∀ i, i < P → ∃ ss, nok ss ∧ pn[i]? = some (p5 ss) ∧ nz[0 + i]? = some (p27 ss)) (hN2 : ∀ i, i < Dn → ∃ ss, nok ss ∧ dn[i]? = some (p5 ss) ∧ nz[7 + i]? = some (p27 ss)) (bx : BX o u1 u2 u3 u4) (ln : li.length = 160) (ho : o < 40) {z : Int32} : (∃ (T M : AE) (li2 : List Int32), FC n lim (posb vs o) T M ∧ li2.length = 160 ∧ LSb 8 53 [.ref 105, .ref 1, .ref 13, .int z] 10 250 [.ref 180, .int (Int32.ofNat (4 * o))] ((1, tcl n lim a kd pl w le nu tk (Int32.ofNat 0) fp) :: (2, bcl bs) :: [(13, dcl13 P Dn lw cl id gl bo), (14, lng pn), (15, ia ri), (16, ia lf), (17, ia wa), (18, ia fo), (19, lng dn), (20, ia ha), (21, ia pa), (22, ia bl), (105, bkc o bv), (106, ia u1), (107, ia u2), (108, ia u3), (109, ia u4)]) ((180, mcl (Int32.ofNat 0) (Int32.ofNat 0) n lim a pl (km kd) nm sg (Int32.ofNat 0) qm wd td (posb vs o)) :: (181, mtl ts) :: [(182, ia nw), (187, lng nz), (200, ia li)]) (.int (Int32.ofNat 0)) (.int (Int32.ofNat 0)) [(1, T)] [(180, M), (200, ia li2)]) ∨ (∃ (k2 : Nat) (tk2 td2 : Int32) (T M : AE) (v1 v2 v3 v4 li2 : List Int32), TC n lim (posb vs o) k2 tk2 td2 T M ∧ BX (o + 1) v1 v2 v3 v4 ∧ li2.length = 160 ∧ LSb 8 53 [.ref 105, .ref 1, .ref 13, .int z] 10 250 [.ref 180, .int (Int32.ofNat (4 * o))] ((1, tcl n lim a kd pl w le nu tk (Int32.ofNat 0) fp) :: (2, bcl bs) :: [(13, dcl13 P Dn lw cl id gl bo), (14, lng pn), (15, ia ri), (16, ia lf), (17, ia wa), (18, ia fo), (19, lng dn), (20, ia ha), (21, ia pa), (22, ia bl), (105, bkc o bv), (106, ia u1), (107, ia u2), (108, ia u3), (109, ia u4)]) ((180, mcl (Int32.ofNat 0) (Int32.ofNat 0) n lim a pl (km kd) nm sg (Int32.ofNat 0) qm wd td (posb vs o)) :: (181, mtl ts) :: [(182, ia nw), (187, lng nz), (200, ia li)]) (.int (Int32.ofNat 1)) (.int (Int32.ofNat 1)) [(1, T), (105, bkc (o + 1) bv), (106, ia v1), (107, ia v2), (108, ia v3), (109, ia v4)] [(180, M), (200, ia li2)]) := by
  obtain ⟨T1, M1, c1, x1, m1⟩ := s_adv hB hM hb hn hl (po := (posb vs o)) (pl := pl) (tk := tk) (td := td) (fp := fp) (plM := qm) t hkd hk4
  obtain ⟨a1, kd1, pl1, w1, le1, nu1, fp1, nm1, sg1, qm1, wd1, rfl, rfl, t1⟩ := c1
  have hw1 := t1.2.2.2.2.1
  by_cases c1 : w1 = 1
  · have hk11 := w_k1 t1 (by omega)
    obtain ⟨rs1, r1, r2, r3, r4, r5, r6⟩ := t1.2.2.2.2.2.1 hk11
    have hr : nok rs1 := ⟨r1, r2, r3⟩
    have hnm1 : (Nat.beq (km kd1) 2 && nmB wd1 30 0) = true := by rw [w_nm t1, c1]; rfl
    have q1 := nm_eq hr hN2
    rw [← r4, ← r5] at q1
    clear r1 r2 r3 r4 r5 r6 hr
    cases e1 : fd dn le1 0 Dn 0 with
    | some j1 =>
      have g1 := q1.symm.trans e1
      have hj1 := (fd_lt e1).2
      obtain ⟨T2, M2, c2, x2, m2⟩ := s_adv hB hM hb hn hl (po := (posb vs o)) (pl := pl1) (tk := tk) (td := (Int32.ofNat j1)) (fp := fp1) (plM := qm1) t1 (by omega) (by omega)
      obtain ⟨a2, kd2, pl2, w2, le2, nu2, fp2, nm2, sg2, qm2, wd2, rfl, rfl, t2⟩ := c2
      have hw2 := t2.2.2.2.2.1
      rcases hd_cases w2 hw2 with ⟨jh, sh⟩ | ⟨jh, ch⟩ | ⟨jh, ch⟩ | ⟨jh, ch⟩
      · obtain ⟨T, M, f, hx, hm⟩ := s_ref (bs := bs) (ts := ts) (lim := lim) (po := (posb vs o)) (pl := pl2) (tk := tk) (td := (Int32.ofNat j1)) (fp := fp2) (plM := qm2) t2 (kk := 1) (by decide) (by decide) (Or.inr rfl)
        obtain ⟨a9, kd9, pl9, w9, le9, nu9, tk9, kk9, am9, fm9, kM9, nm9, sg9, fa9, qm9, wd9, td9, rfl, rfl, f9⟩ := f
        refine Or.inl ⟨tcl n lim a9 kd9 pl9 w9 le9 nu9 tk9 (Int32.ofNat kk9) (Int32.ofNat pl9), mcl (Int32.ofNat 0) (Int32.ofNat 0) n lim am9 fm9 kM9 nm9 sg9 fa9 qm9 wd9 td9 (posb vs o), ((li.set (4 * o) (Int32.ofNat 0)).set (4 * o + 2) (Int32.ofNat j1)), ⟨a9, kd9, pl9, w9, le9, nu9, tk9, kk9, am9, fm9, kM9, nm9, sg9, fa9, qm9, wd9, td9, rfl, rfl, f9⟩, by simp only [List.length_set]; exact ln, fun H hlen => ?_, fun H hlen => ?_⟩
        · have hz : FR 2 71 [.ref 1, .ref 19, .int (Int32.ofNat Dn)] (ov H ((1, tcl n lim a1 kd1 pl1 w1 le1 nu1 tk (Int32.ofNat 0) fp1) :: (2, bcl bs) :: [(13, dcl13 P Dn lw cl id gl bo), (14, lng pn), (15, ia ri), (16, ia lf), (17, ia wa), (18, ia fo), (19, lng dn), (20, ia ha), (21, ia pa), (22, ia bl), (105, bkc o bv), (106, ia u1), (107, ia u2), (108, ia u3), (109, ia u4)])) (some (.int (Int32.ofNat j1)), ov (ov H ((1, tcl n lim a1 kd1 pl1 w1 le1 nu1 tk (Int32.ofNat 0) fp1) :: (2, bcl bs) :: [(13, dcl13 P Dn lw cl id gl bo), (14, lng pn), (15, ia ri), (16, ia lf), (17, ia wa), (18, ia fo), (19, lng dn), (20, ia ha), (21, ia pa), (22, ia bl), (105, bkc o bv), (106, ia u1), (107, ia u2), (108, ia u3), (109, ia u4)])) [(1, tcl n lim a1 kd1 pl1 w1 le1 nu1 tk (Int32.ofNat 0) fp1)]) := by
            refine FR_st2 (l2 := ((1, tcl n lim a1 kd1 pl1 w1 le1 nu1 tk (Int32.ofNat 0) fp1) :: (2, bcl bs) :: [(13, dcl13 P Dn lw cl id gl bo), (14, lng pn), (15, ia ri), (16, ia lf), (17, ia wa), (18, ia fo), (19, lng dn), (20, ia ha), (21, ia pa), (22, ia bl), (105, bkc o bv), (106, ia u1), (107, ia u2), (108, ia u3), (109, ia u4)])) rfl rfl rfl ?_
            refine RT_step (pc2 := 1) rfl (fun _ _ => rfl) ?_
            refine ow_gf rfl rfl rfl hlen rfl ?_
            refine RT_step (pc2 := 7) rfl (fun _ _ => rfl) ?_
            refine rt_acE rfl (by omega) (by omega) ?_
            refine RT_if c1 ?_
            refine RT_step (pc2 := 19) rfl (fun _ _ => rfl) ?_
            refine RT_step (pc2 := 20) rfl (fun _ _ => rfl) ?_
            refine RT_step (pc2 := 21) rfl (fun _ _ => rfl) ?_
            refine ow_gf rfl rfl rfl hlen rfl ?_
            refine ow_is1 rfl rfl rfl rfl rfl ((x_find19 (ov_hl hlen) (ov_at rfl (ov_lt hlen (by decide))) (by omega) (by omega)).up (by decide)) rfl ?_
            rw [show fdI (fd dn le1 0 Dn 0) = Int32.ofNat j1 from by rw [e1]; rfl]
            refine RT_step (pc2 := 28) rfl (fun _ _ => rfl) ?_
            refine RT_step (pc2 := 29) rfl (fun _ _ => rfl) ?_
            refine rt_ico rfl ki_m1 ?_
            refine biF_ne rfl (n_m1 (by omega)) ?_
            refine RT_step (pc2 := 40) rfl (fun _ _ => rfl) ?_
            exact ow_irt rfl rfl rfl
          have hy : FR 3 63 [.ref 13, .ref 1] (ov H ((1, tcl n lim a1 kd1 pl1 w1 le1 nu1 tk (Int32.ofNat 0) fp1) :: (2, bcl bs) :: [(13, dcl13 P Dn lw cl id gl bo), (14, lng pn), (15, ia ri), (16, ia lf), (17, ia wa), (18, ia fo), (19, lng dn), (20, ia ha), (21, ia pa), (22, ia bl), (105, bkc o bv), (106, ia u1), (107, ia u2), (108, ia u3), (109, ia u4)])) (some (.int (Int32.ofNat j1)), ov (ov H ((1, tcl n lim a1 kd1 pl1 w1 le1 nu1 tk (Int32.ofNat 0) fp1) :: (2, bcl bs) :: [(13, dcl13 P Dn lw cl id gl bo), (14, lng pn), (15, ia ri), (16, ia lf), (17, ia wa), (18, ia fo), (19, lng dn), (20, ia ha), (21, ia pa), (22, ia bl), (105, bkc o bv), (106, ia u1), (107, ia u2), (108, ia u3), (109, ia u4)])) [(1, tcl n lim a1 kd1 pl1 w1 le1 nu1 tk (Int32.ofNat 0) fp1)]) := by
            refine FR_st2 (l2 := ((1, tcl n lim a1 kd1 pl1 w1 le1 nu1 tk (Int32.ofNat 0) fp1) :: (2, bcl bs) :: [(13, dcl13 P Dn lw cl id gl bo), (14, lng pn), (15, ia ri), (16, ia lf), (17, ia wa), (18, ia fo), (19, lng dn), (20, ia ha), (21, ia pa), (22, ia bl), (105, bkc o bv), (106, ia u1), (107, ia u2), (108, ia u3), (109, ia u4)])) rfl rfl rfl ?_
            refine RT_step (pc2 := 1) rfl (fun _ _ => rfl) ?_
            refine RT_step (pc2 := 2) rfl (fun _ _ => rfl) ?_
            refine ow_gf rfl rfl rfl hlen rfl ?_
            refine RT_step (pc2 := 6) rfl (fun _ _ => rfl) ?_
            refine ow_gf rfl rfl rfl hlen rfl ?_
            refine ow_is1 (l2 := ((1, tcl n lim a1 kd1 pl1 w1 le1 nu1 tk (Int32.ofNat 0) fp1) :: (2, bcl bs) :: [(13, dcl13 P Dn lw cl id gl bo), (14, lng pn), (15, ia ri), (16, ia lf), (17, ia wa), (18, ia fo), (19, lng dn), (20, ia ha), (21, ia pa), (22, ia bl), (105, bkc o bv), (106, ia u1), (107, ia u2), (108, ia u3), (109, ia u4)])) rfl rfl rfl rfl rfl (hz.up (by decide)) rfl ?_
            exact ow_irt rfl rfl rfl
          refine FR_st2 (l2 := ((1, tcl n lim a9 kd9 pl9 w9 le9 nu9 tk9 (Int32.ofNat kk9) (Int32.ofNat pl9)) :: (2, bcl bs) :: [(13, dcl13 P Dn lw cl id gl bo), (14, lng pn), (15, ia ri), (16, ia lf), (17, ia wa), (18, ia fo), (19, lng dn), (20, ia ha), (21, ia pa), (22, ia bl), (105, bkc o bv), (106, ia u1), (107, ia u2), (108, ia u3), (109, ia u4)])) rfl rfl rfl ?_
          refine RT_step (pc2 := 1) rfl (fun _ _ => rfl) ?_
          refine ow_iv0 (l2 := ((1, tcl n lim a1 kd1 pl1 w1 le1 nu1 tk (Int32.ofNat 0) fp1) :: (2, bcl bs) :: [(13, dcl13 P Dn lw cl id gl bo), (14, lng pn), (15, ia ri), (16, ia lf), (17, ia wa), (18, ia fo), (19, lng dn), (20, ia ha), (21, ia pa), (22, ia bl), (105, bkc o bv), (106, ia u1), (107, ia u2), (108, ia u3), (109, ia u4)])) rfl rfl rfl rfl hlen rfl rfl rfl ((x1 _ (ov_hl hlen) (ov_at rfl (ov_lt hlen (by decide))) (ov_at rfl (ov_lt hlen (by decide)))).up (by decide)) rfl ?_
          refine RT_step (pc2 := 5) rfl (fun _ _ => rfl) ?_
          refine RT_step (pc2 := 6) rfl (fun _ _ => rfl) ?_
          refine ow_iv1 (l2 := ((1, tcl n lim a1 kd1 pl1 w1 le1 nu1 tk (Int32.ofNat 0) fp1) :: (2, bcl bs) :: [(13, dcl13 P Dn lw cl id gl bo), (14, lng pn), (15, ia ri), (16, ia lf), (17, ia wa), (18, ia fo), (19, lng dn), (20, ia ha), (21, ia pa), (22, ia bl), (105, bkc o bv), (106, ia u1), (107, ia u2), (108, ia u3), (109, ia u4)])) rfl rfl rfl rfl hlen rfl rfl rfl (hy.up (by decide)) rfl ?_
          refine RT_step (pc2 := 11) rfl (fun _ _ => rfl) ?_
          refine RT_step (pc2 := 13) rfl (fun _ _ => rfl) ?_
          refine rt_ico rfl ki_m1 ?_
          refine biF_ne rfl (n_m1 (by omega)) ?_
          refine RT_step (pc2 := 20) rfl (fun _ _ => rfl) ?_
          refine ow_iv0 (l2 := ((1, tcl n lim a2 kd2 pl2 w2 le2 nu2 tk (Int32.ofNat 0) fp2) :: (2, bcl bs) :: [(13, dcl13 P Dn lw cl id gl bo), (14, lng pn), (15, ia ri), (16, ia lf), (17, ia wa), (18, ia fo), (19, lng dn), (20, ia ha), (21, ia pa), (22, ia bl), (105, bkc o bv), (106, ia u1), (107, ia u2), (108, ia u3), (109, ia u4)])) rfl rfl rfl rfl hlen rfl rfl rfl ((x2 _ (ov_hl hlen) (ov_at rfl (ov_lt hlen (by decide))) (ov_at rfl (ov_lt hlen (by decide)))).up (by decide)) rfl ?_
          refine RT_step (pc2 := 26) rfl (fun _ _ => rfl) ?_
          refine RT_step (pc2 := 27) rfl (fun _ _ => rfl) ?_
          refine ow_gf rfl rfl rfl hlen rfl ?_
          refine rt_ord rfl hw2 rfl ?_
          refine rt_isw rfl (sw_rd hw2) ?_
          refine rt_tsD (t := 96) rfl sh rfl ?_
          refine RT_step (pc2 := 97) rfl (fun _ _ => rfl) ?_
          refine rt_ico rfl ki_1 ?_
          refine ow_iv1 (l2 := ((1, tcl n lim a9 kd9 pl9 w9 le9 nu9 tk9 (Int32.ofNat kk9) (Int32.ofNat pl9)) :: (2, bcl bs) :: [(13, dcl13 P Dn lw cl id gl bo), (14, lng pn), (15, ia ri), (16, ia lf), (17, ia wa), (18, ia fo), (19, lng dn), (20, ia ha), (21, ia pa), (22, ia bl), (105, bkc o bv), (106, ia u1), (107, ia u2), (108, ia u3), (109, ia u4)])) rfl rfl rfl rfl hlen rfl rfl rfl ((hx _ (ov_hl hlen) (ov_at rfl (ov_lt hlen (by decide))) (ov_at rfl (ov_lt hlen (by decide)))).up (by decide)) rfl ?_
          exact ow_irt rfl rfl rfl
        · have hm2 : FR 6 257 [.ref 180, .int (Int32.ofNat 7), .int (Int32.ofNat Dn)] (ov H ((180, mcl (Int32.ofNat 0) (Int32.ofNat 0) n lim a1 pl1 (km kd1) nm1 sg1 (Int32.ofNat 0) qm1 wd1 td (posb vs o)) :: (181, mtl ts) :: [(182, ia nw), (187, lng nz), (200, ia (li.set (4 * o) (Int32.ofNat 0)))])) (some (.int (Int32.ofNat 1)), ov (ov H ((180, mcl (Int32.ofNat 0) (Int32.ofNat 0) n lim a1 pl1 (km kd1) nm1 sg1 (Int32.ofNat 0) qm1 wd1 td (posb vs o)) :: (181, mtl ts) :: [(182, ia nw), (187, lng nz), (200, ia (li.set (4 * o) (Int32.ofNat 0)))])) [(180, mcl (Int32.ofNat 0) (Int32.ofNat 0) n lim a2 pl2 (km kd2) nm2 sg2 (Int32.ofNat 0) qm2 wd2 (Int32.ofNat j1) (posb vs o))]) := by
            refine FR_st2 (l2 := ((180, mcl (Int32.ofNat 0) (Int32.ofNat 0) n lim a2 pl2 (km kd2) nm2 sg2 (Int32.ofNat 0) qm2 wd2 (Int32.ofNat j1) (posb vs o)) :: (181, mtl ts) :: [(182, ia nw), (187, lng nz), (200, ia (li.set (4 * o) (Int32.ofNat 0)))])) rfl rfl rfl ?_
            refine RT_step (pc2 := 1) rfl (fun _ _ => rfl) ?_
            refine ow_iv1 rfl rfl rfl rfl hlen rfl rfl rfl ((m_isName (ov_hl hlen) (ov_at rfl (ov_lt hlen (by decide))) (km_is kd1 t1.2.2.2.1).2.2.2.2.2).up (by omega)) rfl ?_
            refine bcF_ne rfl (b01_t hnm1) ?_
            refine RT_step (pc2 := 14) rfl (fun _ _ => rfl) ?_
            refine RT_step (pc2 := 15) rfl (fun _ _ => rfl) ?_
            refine ow_gf rfl rfl rfl hlen rfl ?_
            refine RT_step (pc2 := 19) rfl (fun _ _ => rfl) ?_
            refine RT_step (pc2 := 20) rfl (fun _ _ => rfl) ?_
            refine RT_step (pc2 := 21) rfl (fun _ _ => rfl) ?_
            refine ow_gf rfl rfl rfl hlen rfl ?_
            refine ow_is1 rfl rfl rfl rfl rfl ((m_find7 (bs0 := 7) (cnt := Dn) (ov_hl hlen) (ov_at rfl (ov_lt hlen (by decide))) (by omega) (by omega)).up (by omega)) rfl ?_
            rw [show fdI (fd nz wd1 7 Dn 0) = Int32.ofNat j1 from by rw [g1]; rfl]
            refine ow_pf (l2 := ((180, mcl (Int32.ofNat 0) (Int32.ofNat 0) n lim a1 pl1 (km kd1) nm1 sg1 (Int32.ofNat 0) qm1 wd1 (Int32.ofNat j1) (posb vs o)) :: (181, mtl ts) :: [(182, ia nw), (187, lng nz), (200, ia (li.set (4 * o) (Int32.ofNat 0)))])) rfl rfl rfl rfl rfl hlen rfl rfl ?_
            refine RT_step (pc2 := 31) rfl (fun _ _ => rfl) ?_
            refine ow_gf rfl rfl rfl hlen rfl ?_
            refine rt_ico rfl ki_m1 ?_
            refine biF_ne rfl (n_m1 (by omega)) ?_
            refine RT_step (pc2 := 45) rfl (fun _ _ => rfl) ?_
            refine ow_iv0 (l2 := ((180, mcl (Int32.ofNat 0) (Int32.ofNat 0) n lim a2 pl2 (km kd2) nm2 sg2 (Int32.ofNat 0) qm2 wd2 (Int32.ofNat j1) (posb vs o)) :: (181, mtl ts) :: [(182, ia nw), (187, lng nz), (200, ia (li.set (4 * o) (Int32.ofNat 0)))])) rfl rfl rfl rfl hlen rfl rfl rfl ((m2 _ (ov_hl hlen) (ov_at rfl (ov_lt hlen (by decide))) (ov_at rfl (ov_lt hlen (by decide)))).up (by omega)) rfl ?_
            refine rt_ico rfl ki_1 ?_
            exact ow_irt rfl rfl rfl
          have hm3 : FR 6 255 [.ref 180] (ov H ((180, mcl (Int32.ofNat 0) (Int32.ofNat 0) n lim a2 pl2 (km kd2) nm2 sg2 (Int32.ofNat 0) qm2 wd2 (Int32.ofNat j1) (posb vs o)) :: (181, mtl ts) :: [(182, ia nw), (187, lng nz), (200, ia ((li.set (4 * o) (Int32.ofNat 0)).set (4 * o + 2) (Int32.ofNat j1)))])) (some (.int (Int32.ofNat 0)), ov (ov H ((180, mcl (Int32.ofNat 0) (Int32.ofNat 0) n lim a2 pl2 (km kd2) nm2 sg2 (Int32.ofNat 0) qm2 wd2 (Int32.ofNat j1) (posb vs o)) :: (181, mtl ts) :: [(182, ia nw), (187, lng nz), (200, ia ((li.set (4 * o) (Int32.ofNat 0)).set (4 * o + 2) (Int32.ofNat j1)))])) [(180, mcl (Int32.ofNat 0) (Int32.ofNat 0) n lim am9 fm9 kM9 nm9 sg9 fa9 qm9 wd9 td9 (posb vs o))]) := by
            refine FR_st2 (l2 := ((180, mcl (Int32.ofNat 0) (Int32.ofNat 0) n lim am9 fm9 kM9 nm9 sg9 fa9 qm9 wd9 td9 (posb vs o)) :: (181, mtl ts) :: [(182, ia nw), (187, lng nz), (200, ia ((li.set (4 * o) (Int32.ofNat 0)).set (4 * o + 2) (Int32.ofNat j1)))])) rfl rfl rfl ?_
            refine rt_bip rfl k8_13 ?_
            refine RT_step (pc2 := 3) rfl (fun _ _ => rfl) ?_
            refine m_hl hlen (km_is kd2 t2.2.2.2.1).2.2.2.2.2 3 13 _ rfl rfl rfl (fun L2 l0 lw => ?_)
            rw [wj_le t2 3 13 (by decide), jh] at lw
            refine rt_ild rfl lw ?_
            refine rt_bip rfl k8_15 ?_
            refine biF_le rfl (n_nle (by decide) (by decide)) ?_
            refine rt_ald rfl l0 ?_
            refine rt_ico rfl ki_1 ?_
            refine ow_iv1 (l2 := ((180, mcl (Int32.ofNat 0) (Int32.ofNat 0) n lim am9 fm9 kM9 nm9 sg9 fa9 qm9 wd9 td9 (posb vs o)) :: (181, mtl ts) :: [(182, ia nw), (187, lng nz), (200, ia ((li.set (4 * o) (Int32.ofNat 0)).set (4 * o + 2) (Int32.ofNat j1)))])) rfl rfl rfl rfl hlen rfl rfl rfl ((hm _ (ov_hl hlen) (ov_at rfl (ov_lt hlen (by decide))) (ov_at rfl (ov_lt hlen (by decide)))).up (by omega)) rfl ?_
            exact ow_irt rfl rfl rfl
          refine FR_st2 (l2 := ((180, mcl (Int32.ofNat 0) (Int32.ofNat 0) n lim am9 fm9 kM9 nm9 sg9 fa9 qm9 wd9 td9 (posb vs o)) :: (181, mtl ts) :: [(182, ia nw), (187, lng nz), (200, ia ((li.set (4 * o) (Int32.ofNat 0)).set (4 * o + 2) (Int32.ofNat j1)))])) rfl rfl rfl ?_
          refine rt_bip rfl k8_8 ?_
          refine RT_step (pc2 := 3) rfl (fun _ _ => rfl) ?_
          refine m_vl (z := Int32.ofNat (4 * o)) hlen (km_is kd t.2.2.2.1).2.2.2.2.2 5 8 _ rfl rfl rfl rfl (fun L2 l0 l1 lw => ?_)
          rw [wj_le t 5 8 (by decide), jv] at lw
          refine rt_ild rfl lw ?_
          refine rt_bip rfl k8_12 ?_
          refine biT_le rfl (n_le (by decide) (by decide)) ?_
          refine rt_ald rfl l0 ?_
          refine ow_gf rfl rfl rfl hlen rfl ?_
          refine rt_ild rfl l1 ?_
          refine rt_ild rfl lw ?_
          refine rt_bip rfl k8_8 ?_
          refine ba_isub rfl ?_
          rw [show Int32.ofNat 8 - Int32.ofNat 8 = Int32.ofNat 0 from rfl]
          refine ow_iasN (l2 := ((180, mcl (Int32.ofNat 0) (Int32.ofNat 0) n lim a pl (km kd) nm sg (Int32.ofNat 0) qm wd td (posb vs o)) :: (181, mtl ts) :: [(182, ia nw), (187, lng nz), (200, ia (li.set (4 * o) (Int32.ofNat 0)))])) rfl rfl (by omega) (by omega) hlen rfl rfl ?_
          refine rt_ald rfl l0 ?_
          refine ow_iv0 (l2 := ((180, mcl (Int32.ofNat 0) (Int32.ofNat 0) n lim a1 pl1 (km kd1) nm1 sg1 (Int32.ofNat 0) qm1 wd1 td (posb vs o)) :: (181, mtl ts) :: [(182, ia nw), (187, lng nz), (200, ia (li.set (4 * o) (Int32.ofNat 0)))])) rfl rfl rfl rfl hlen rfl rfl rfl ((m1 _ (ov_hl hlen) (ov_at rfl (ov_lt hlen (by decide))) (ov_at rfl (ov_lt hlen (by decide)))).up (by omega)) rfl ?_
          refine rt_ald rfl l0 ?_
          refine ow_gf rfl rfl rfl hlen rfl ?_
          refine rt_ild rfl l1 ?_
          refine ow_ialN rfl rfl (List.getElem?_set_self (by omega)) (by omega) hlen rfl ?_
          refine RT_step (pc2 := 80) rfl (fun _ _ => rfl) ?_
          refine rt_ald rfl l0 ?_
          refine rt_ild rfl l1 ?_
          refine rt_ico rfl ki_2 ?_
          refine ba_iadd rfl ?_
          rw [n_add]
          refine rt_ald rfl l0 ?_
          refine rt_bip rfl k8_7 ?_
          refine rt_ald rfl l0 ?_
          refine ow_gf rfl rfl rfl hlen rfl ?_
          refine rt_ico rfl ki_1 ?_
          refine ow_ialN rfl rfl hv1 (by omega) hlen rfl ?_
          refine ow_iv1 (l2 := ((180, mcl (Int32.ofNat 0) (Int32.ofNat 0) n lim a2 pl2 (km kd2) nm2 sg2 (Int32.ofNat 0) qm2 wd2 (Int32.ofNat j1) (posb vs o)) :: (181, mtl ts) :: [(182, ia nw), (187, lng nz), (200, ia (li.set (4 * o) (Int32.ofNat 0)))])) rfl rfl rfl rfl hlen rfl rfl rfl (hm2.up (by omega)) rfl ?_
          refine ow_iv1 (l2 := ((180, mcl (Int32.ofNat 0) (Int32.ofNat 0) n lim a2 pl2 (km kd2) nm2 sg2 (Int32.ofNat 0) qm2 wd2 (Int32.ofNat j1) (posb vs o)) :: (181, mtl ts) :: [(182, ia nw), (187, lng nz), (200, ia ((li.set (4 * o) (Int32.ofNat 0)).set (4 * o + 2) (Int32.ofNat j1)))])) rfl rfl rfl rfl hlen rfl rfl rfl ((m_kp1 (ov_hl hlen) (ov_at rfl (ov_lt hlen (by decide))) (ov_at rfl (ov_lt hlen (by decide))) (by (try simp only [List.length_set]); omega) (by omega)).up (by omega)) rfl ?_
          refine bcF_eq rfl (by decide) ?_
          refine rt_ald rfl l0 ?_
          refine rt_ild rfl l1 ?_
          refine rt_ico rfl ki_3 ?_
          refine ba_iadd rfl ?_
          rw [n_add]
          refine rt_ald rfl l0 ?_
          refine ow_iv1 (l2 := ((180, mcl (Int32.ofNat 0) (Int32.ofNat 0) n lim am9 fm9 kM9 nm9 sg9 fa9 qm9 wd9 td9 (posb vs o)) :: (181, mtl ts) :: [(182, ia nw), (187, lng nz), (200, ia ((li.set (4 * o) (Int32.ofNat 0)).set (4 * o + 2) (Int32.ofNat j1)))])) rfl rfl rfl rfl hlen rfl rfl rfl (hm3.up (by omega)) rfl ?_
          refine ow_iv1 (l2 := ((180, mcl (Int32.ofNat 0) (Int32.ofNat 0) n lim am9 fm9 kM9 nm9 sg9 fa9 qm9 wd9 td9 (posb vs o)) :: (181, mtl ts) :: [(182, ia nw), (187, lng nz), (200, ia ((li.set (4 * o) (Int32.ofNat 0)).set (4 * o + 2) (Int32.ofNat j1)))])) rfl rfl rfl rfl hlen rfl rfl rfl (m_kp0.up (by omega)) rfl ?_
          refine bcT_eq rfl rfl ?_
          refine rt_ico rfl ki_0 ?_
          exact ow_irt rfl rfl rfl
      · subst ch
        have hk12 := w_k1 t2 (by decide)
        obtain ⟨T3, M3, c3, x3, m3⟩ := s_adv hB hM hb hn hl (po := (posb vs o)) (pl := pl2) (tk := tk) (td := (Int32.ofNat 0)) (fp := fp2) (plM := qm2) t2 (by omega) (by omega)
        obtain ⟨a3, kd3, pl3, w3, le3, nu3, fp3, nm3, sg3, qm3, wd3, rfl, rfl, t3⟩ := c3
        obtain ⟨v1, v2, v3, v4, bx2, hadd⟩ := bx_add bx ho (Int32.ofNat 0) z (Int32.ofNat j1) (Int32.ofNat 0)
        refine Or.inr ⟨_, tk, (Int32.ofNat 0), tcl n lim a3 kd3 pl3 w3 le3 nu3 tk (Int32.ofNat 0) fp3, mcl (Int32.ofNat 0) (Int32.ofNat 0) n lim a3 pl3 (km kd3) nm3 sg3 (Int32.ofNat 0) qm3 wd3 (Int32.ofNat 0) (posb vs o), v1, v2, v3, v4, (((li.set (4 * o) (Int32.ofNat 0)).set (4 * o + 2) (Int32.ofNat j1)).set (4 * o + 3) (Int32.ofNat 0)), tf_td t3, bx2, by simp only [List.length_set]; exact ln, fun H hlen => ?_, fun H hlen => ?_⟩
        · have hz : FR 2 71 [.ref 1, .ref 19, .int (Int32.ofNat Dn)] (ov H ((1, tcl n lim a1 kd1 pl1 w1 le1 nu1 tk (Int32.ofNat 0) fp1) :: (2, bcl bs) :: [(13, dcl13 P Dn lw cl id gl bo), (14, lng pn), (15, ia ri), (16, ia lf), (17, ia wa), (18, ia fo), (19, lng dn), (20, ia ha), (21, ia pa), (22, ia bl), (105, bkc o bv), (106, ia u1), (107, ia u2), (108, ia u3), (109, ia u4)])) (some (.int (Int32.ofNat j1)), ov (ov H ((1, tcl n lim a1 kd1 pl1 w1 le1 nu1 tk (Int32.ofNat 0) fp1) :: (2, bcl bs) :: [(13, dcl13 P Dn lw cl id gl bo), (14, lng pn), (15, ia ri), (16, ia lf), (17, ia wa), (18, ia fo), (19, lng dn), (20, ia ha), (21, ia pa), (22, ia bl), (105, bkc o bv), (106, ia u1), (107, ia u2), (108, ia u3), (109, ia u4)])) [(1, tcl n lim a1 kd1 pl1 w1 le1 nu1 tk (Int32.ofNat 0) fp1)]) := by
            refine FR_st2 (l2 := ((1, tcl n lim a1 kd1 pl1 w1 le1 nu1 tk (Int32.ofNat 0) fp1) :: (2, bcl bs) :: [(13, dcl13 P Dn lw cl id gl bo), (14, lng pn), (15, ia ri), (16, ia lf), (17, ia wa), (18, ia fo), (19, lng dn), (20, ia ha), (21, ia pa), (22, ia bl), (105, bkc o bv), (106, ia u1), (107, ia u2), (108, ia u3), (109, ia u4)])) rfl rfl rfl ?_
            refine RT_step (pc2 := 1) rfl (fun _ _ => rfl) ?_
            refine ow_gf rfl rfl rfl hlen rfl ?_
            refine RT_step (pc2 := 7) rfl (fun _ _ => rfl) ?_
            refine rt_acE rfl (by omega) (by omega) ?_
            refine RT_if c1 ?_
            refine RT_step (pc2 := 19) rfl (fun _ _ => rfl) ?_
            refine RT_step (pc2 := 20) rfl (fun _ _ => rfl) ?_
            refine RT_step (pc2 := 21) rfl (fun _ _ => rfl) ?_
            refine ow_gf rfl rfl rfl hlen rfl ?_
            refine ow_is1 rfl rfl rfl rfl rfl ((x_find19 (ov_hl hlen) (ov_at rfl (ov_lt hlen (by decide))) (by omega) (by omega)).up (by decide)) rfl ?_
            rw [show fdI (fd dn le1 0 Dn 0) = Int32.ofNat j1 from by rw [e1]; rfl]
            refine RT_step (pc2 := 28) rfl (fun _ _ => rfl) ?_
            refine RT_step (pc2 := 29) rfl (fun _ _ => rfl) ?_
            refine rt_ico rfl ki_m1 ?_
            refine biF_ne rfl (n_m1 (by omega)) ?_
            refine RT_step (pc2 := 40) rfl (fun _ _ => rfl) ?_
            exact ow_irt rfl rfl rfl
          have hy : FR 3 63 [.ref 13, .ref 1] (ov H ((1, tcl n lim a1 kd1 pl1 w1 le1 nu1 tk (Int32.ofNat 0) fp1) :: (2, bcl bs) :: [(13, dcl13 P Dn lw cl id gl bo), (14, lng pn), (15, ia ri), (16, ia lf), (17, ia wa), (18, ia fo), (19, lng dn), (20, ia ha), (21, ia pa), (22, ia bl), (105, bkc o bv), (106, ia u1), (107, ia u2), (108, ia u3), (109, ia u4)])) (some (.int (Int32.ofNat j1)), ov (ov H ((1, tcl n lim a1 kd1 pl1 w1 le1 nu1 tk (Int32.ofNat 0) fp1) :: (2, bcl bs) :: [(13, dcl13 P Dn lw cl id gl bo), (14, lng pn), (15, ia ri), (16, ia lf), (17, ia wa), (18, ia fo), (19, lng dn), (20, ia ha), (21, ia pa), (22, ia bl), (105, bkc o bv), (106, ia u1), (107, ia u2), (108, ia u3), (109, ia u4)])) [(1, tcl n lim a1 kd1 pl1 w1 le1 nu1 tk (Int32.ofNat 0) fp1)]) := by
            refine FR_st2 (l2 := ((1, tcl n lim a1 kd1 pl1 w1 le1 nu1 tk (Int32.ofNat 0) fp1) :: (2, bcl bs) :: [(13, dcl13 P Dn lw cl id gl bo), (14, lng pn), (15, ia ri), (16, ia lf), (17, ia wa), (18, ia fo), (19, lng dn), (20, ia ha), (21, ia pa), (22, ia bl), (105, bkc o bv), (106, ia u1), (107, ia u2), (108, ia u3), (109, ia u4)])) rfl rfl rfl ?_
            refine RT_step (pc2 := 1) rfl (fun _ _ => rfl) ?_
            refine RT_step (pc2 := 2) rfl (fun _ _ => rfl) ?_
            refine ow_gf rfl rfl rfl hlen rfl ?_
            refine RT_step (pc2 := 6) rfl (fun _ _ => rfl) ?_
            refine ow_gf rfl rfl rfl hlen rfl ?_
            refine ow_is1 (l2 := ((1, tcl n lim a1 kd1 pl1 w1 le1 nu1 tk (Int32.ofNat 0) fp1) :: (2, bcl bs) :: [(13, dcl13 P Dn lw cl id gl bo), (14, lng pn), (15, ia ri), (16, ia lf), (17, ia wa), (18, ia fo), (19, lng dn), (20, ia ha), (21, ia pa), (22, ia bl), (105, bkc o bv), (106, ia u1), (107, ia u2), (108, ia u3), (109, ia u4)])) rfl rfl rfl rfl rfl (hz.up (by decide)) rfl ?_
            exact ow_irt rfl rfl rfl
          refine FR_st2 (l2 := ((1, tcl n lim a3 kd3 pl3 w3 le3 nu3 tk (Int32.ofNat 0) fp3) :: (2, bcl bs) :: [(13, dcl13 P Dn lw cl id gl bo), (14, lng pn), (15, ia ri), (16, ia lf), (17, ia wa), (18, ia fo), (19, lng dn), (20, ia ha), (21, ia pa), (22, ia bl), (105, bkc (o + 1) bv), (106, ia v1), (107, ia v2), (108, ia v3), (109, ia v4)])) rfl rfl rfl ?_
          refine RT_step (pc2 := 1) rfl (fun _ _ => rfl) ?_
          refine ow_iv0 (l2 := ((1, tcl n lim a1 kd1 pl1 w1 le1 nu1 tk (Int32.ofNat 0) fp1) :: (2, bcl bs) :: [(13, dcl13 P Dn lw cl id gl bo), (14, lng pn), (15, ia ri), (16, ia lf), (17, ia wa), (18, ia fo), (19, lng dn), (20, ia ha), (21, ia pa), (22, ia bl), (105, bkc o bv), (106, ia u1), (107, ia u2), (108, ia u3), (109, ia u4)])) rfl rfl rfl rfl hlen rfl rfl rfl ((x1 _ (ov_hl hlen) (ov_at rfl (ov_lt hlen (by decide))) (ov_at rfl (ov_lt hlen (by decide)))).up (by decide)) rfl ?_
          refine RT_step (pc2 := 5) rfl (fun _ _ => rfl) ?_
          refine RT_step (pc2 := 6) rfl (fun _ _ => rfl) ?_
          refine ow_iv1 (l2 := ((1, tcl n lim a1 kd1 pl1 w1 le1 nu1 tk (Int32.ofNat 0) fp1) :: (2, bcl bs) :: [(13, dcl13 P Dn lw cl id gl bo), (14, lng pn), (15, ia ri), (16, ia lf), (17, ia wa), (18, ia fo), (19, lng dn), (20, ia ha), (21, ia pa), (22, ia bl), (105, bkc o bv), (106, ia u1), (107, ia u2), (108, ia u3), (109, ia u4)])) rfl rfl rfl rfl hlen rfl rfl rfl (hy.up (by decide)) rfl ?_
          refine RT_step (pc2 := 11) rfl (fun _ _ => rfl) ?_
          refine RT_step (pc2 := 13) rfl (fun _ _ => rfl) ?_
          refine rt_ico rfl ki_m1 ?_
          refine biF_ne rfl (n_m1 (by omega)) ?_
          refine RT_step (pc2 := 20) rfl (fun _ _ => rfl) ?_
          refine ow_iv0 (l2 := ((1, tcl n lim a2 kd2 pl2 17 le2 nu2 tk (Int32.ofNat 0) fp2) :: (2, bcl bs) :: [(13, dcl13 P Dn lw cl id gl bo), (14, lng pn), (15, ia ri), (16, ia lf), (17, ia wa), (18, ia fo), (19, lng dn), (20, ia ha), (21, ia pa), (22, ia bl), (105, bkc o bv), (106, ia u1), (107, ia u2), (108, ia u3), (109, ia u4)])) rfl rfl rfl rfl hlen rfl rfl rfl ((x2 _ (ov_hl hlen) (ov_at rfl (ov_lt hlen (by decide))) (ov_at rfl (ov_lt hlen (by decide)))).up (by decide)) rfl ?_
          refine RT_step (pc2 := 26) rfl (fun _ _ => rfl) ?_
          refine RT_step (pc2 := 27) rfl (fun _ _ => rfl) ?_
          refine ow_gf rfl rfl rfl hlen rfl ?_
          refine rt_ord rfl (by decide) rfl ?_
          refine rt_isw rfl (v := 13) (by decide +kernel) ?_
          refine RT_step (pc2 := 60) rfl (fun _ _ => rfl) ?_
          refine RT_step (pc2 := 61) rfl (fun _ _ => rfl) ?_
          refine rt_ico rfl ki_0 ?_
          refine RT_step (pc2 := 63) rfl (fun _ _ => rfl) ?_
          refine RT_step (pc2 := 65) rfl (fun _ _ => rfl) ?_
          refine rt_ico rfl ki_0 ?_
          refine ow_iv0 (l2 := ((1, tcl n lim a2 kd2 pl2 17 le2 nu2 tk (Int32.ofNat 0) fp2) :: (2, bcl bs) :: [(13, dcl13 P Dn lw cl id gl bo), (14, lng pn), (15, ia ri), (16, ia lf), (17, ia wa), (18, ia fo), (19, lng dn), (20, ia ha), (21, ia pa), (22, ia bl), (105, bkc (o + 1) bv), (106, ia v1), (107, ia v2), (108, ia v3), (109, ia v4)])) rfl rfl rfl rfl hlen rfl rfl rfl ((hadd bv _ (ov_hl hlen) (ov_at rfl (ov_lt hlen (by decide))) (ov_at rfl (ov_lt hlen (by decide))) (ov_at rfl (ov_lt hlen (by decide))) (ov_at rfl (ov_lt hlen (by decide))) (ov_at rfl (ov_lt hlen (by decide)))).up (by decide)) rfl ?_
          refine RT_step (pc2 := 102) rfl (fun _ _ => rfl) ?_
          refine RT_step (pc2 := 103) rfl (fun _ _ => rfl) ?_
          refine ow_iv0 (l2 := ((1, tcl n lim a3 kd3 pl3 w3 le3 nu3 tk (Int32.ofNat 0) fp3) :: (2, bcl bs) :: [(13, dcl13 P Dn lw cl id gl bo), (14, lng pn), (15, ia ri), (16, ia lf), (17, ia wa), (18, ia fo), (19, lng dn), (20, ia ha), (21, ia pa), (22, ia bl), (105, bkc (o + 1) bv), (106, ia v1), (107, ia v2), (108, ia v3), (109, ia v4)])) rfl rfl rfl rfl hlen rfl rfl rfl ((x3 _ (ov_hl hlen) (ov_at rfl (ov_lt hlen (by decide))) (ov_at rfl (ov_lt hlen (by decide)))).up (by decide)) rfl ?_
          refine rt_ico rfl ki_1 ?_
          exact ow_irt rfl rfl rfl
        · have hm2 : FR 6 257 [.ref 180, .int (Int32.ofNat 7), .int (Int32.ofNat Dn)] (ov H ((180, mcl (Int32.ofNat 0) (Int32.ofNat 0) n lim a1 pl1 (km kd1) nm1 sg1 (Int32.ofNat 0) qm1 wd1 td (posb vs o)) :: (181, mtl ts) :: [(182, ia nw), (187, lng nz), (200, ia (li.set (4 * o) (Int32.ofNat 0)))])) (some (.int (Int32.ofNat 1)), ov (ov H ((180, mcl (Int32.ofNat 0) (Int32.ofNat 0) n lim a1 pl1 (km kd1) nm1 sg1 (Int32.ofNat 0) qm1 wd1 td (posb vs o)) :: (181, mtl ts) :: [(182, ia nw), (187, lng nz), (200, ia (li.set (4 * o) (Int32.ofNat 0)))])) [(180, mcl (Int32.ofNat 0) (Int32.ofNat 0) n lim a2 pl2 (km kd2) nm2 sg2 (Int32.ofNat 0) qm2 wd2 (Int32.ofNat j1) (posb vs o))]) := by
            refine FR_st2 (l2 := ((180, mcl (Int32.ofNat 0) (Int32.ofNat 0) n lim a2 pl2 (km kd2) nm2 sg2 (Int32.ofNat 0) qm2 wd2 (Int32.ofNat j1) (posb vs o)) :: (181, mtl ts) :: [(182, ia nw), (187, lng nz), (200, ia (li.set (4 * o) (Int32.ofNat 0)))])) rfl rfl rfl ?_
            refine RT_step (pc2 := 1) rfl (fun _ _ => rfl) ?_
            refine ow_iv1 rfl rfl rfl rfl hlen rfl rfl rfl ((m_isName (ov_hl hlen) (ov_at rfl (ov_lt hlen (by decide))) (km_is kd1 t1.2.2.2.1).2.2.2.2.2).up (by omega)) rfl ?_
            refine bcF_ne rfl (b01_t hnm1) ?_
            refine RT_step (pc2 := 14) rfl (fun _ _ => rfl) ?_
            refine RT_step (pc2 := 15) rfl (fun _ _ => rfl) ?_
            refine ow_gf rfl rfl rfl hlen rfl ?_
            refine RT_step (pc2 := 19) rfl (fun _ _ => rfl) ?_
            refine RT_step (pc2 := 20) rfl (fun _ _ => rfl) ?_
            refine RT_step (pc2 := 21) rfl (fun _ _ => rfl) ?_
            refine ow_gf rfl rfl rfl hlen rfl ?_
            refine ow_is1 rfl rfl rfl rfl rfl ((m_find7 (bs0 := 7) (cnt := Dn) (ov_hl hlen) (ov_at rfl (ov_lt hlen (by decide))) (by omega) (by omega)).up (by omega)) rfl ?_
            rw [show fdI (fd nz wd1 7 Dn 0) = Int32.ofNat j1 from by rw [g1]; rfl]
            refine ow_pf (l2 := ((180, mcl (Int32.ofNat 0) (Int32.ofNat 0) n lim a1 pl1 (km kd1) nm1 sg1 (Int32.ofNat 0) qm1 wd1 (Int32.ofNat j1) (posb vs o)) :: (181, mtl ts) :: [(182, ia nw), (187, lng nz), (200, ia (li.set (4 * o) (Int32.ofNat 0)))])) rfl rfl rfl rfl rfl hlen rfl rfl ?_
            refine RT_step (pc2 := 31) rfl (fun _ _ => rfl) ?_
            refine ow_gf rfl rfl rfl hlen rfl ?_
            refine rt_ico rfl ki_m1 ?_
            refine biF_ne rfl (n_m1 (by omega)) ?_
            refine RT_step (pc2 := 45) rfl (fun _ _ => rfl) ?_
            refine ow_iv0 (l2 := ((180, mcl (Int32.ofNat 0) (Int32.ofNat 0) n lim a2 pl2 (km kd2) nm2 sg2 (Int32.ofNat 0) qm2 wd2 (Int32.ofNat j1) (posb vs o)) :: (181, mtl ts) :: [(182, ia nw), (187, lng nz), (200, ia (li.set (4 * o) (Int32.ofNat 0)))])) rfl rfl rfl rfl hlen rfl rfl rfl ((m2 _ (ov_hl hlen) (ov_at rfl (ov_lt hlen (by decide))) (ov_at rfl (ov_lt hlen (by decide)))).up (by omega)) rfl ?_
            refine rt_ico rfl ki_1 ?_
            exact ow_irt rfl rfl rfl
          have hm3 : FR 6 255 [.ref 180] (ov H ((180, mcl (Int32.ofNat 0) (Int32.ofNat 0) n lim a2 pl2 (km kd2) nm2 sg2 (Int32.ofNat 0) qm2 wd2 (Int32.ofNat j1) (posb vs o)) :: (181, mtl ts) :: [(182, ia nw), (187, lng nz), (200, ia ((li.set (4 * o) (Int32.ofNat 0)).set (4 * o + 2) (Int32.ofNat j1)))])) (some (.int (Int32.ofNat 1)), ov (ov H ((180, mcl (Int32.ofNat 0) (Int32.ofNat 0) n lim a2 pl2 (km kd2) nm2 sg2 (Int32.ofNat 0) qm2 wd2 (Int32.ofNat j1) (posb vs o)) :: (181, mtl ts) :: [(182, ia nw), (187, lng nz), (200, ia ((li.set (4 * o) (Int32.ofNat 0)).set (4 * o + 2) (Int32.ofNat j1)))])) [(180, mcl (Int32.ofNat 0) (Int32.ofNat 0) n lim a3 pl3 (km kd3) nm3 sg3 (Int32.ofNat 0) qm3 wd3 (Int32.ofNat 0) (posb vs o))]) := by
            refine FR_st2 (l2 := ((180, mcl (Int32.ofNat 0) (Int32.ofNat 0) n lim a3 pl3 (km kd3) nm3 sg3 (Int32.ofNat 0) qm3 wd3 (Int32.ofNat 0) (posb vs o)) :: (181, mtl ts) :: [(182, ia nw), (187, lng nz), (200, ia ((li.set (4 * o) (Int32.ofNat 0)).set (4 * o + 2) (Int32.ofNat j1)))])) rfl rfl rfl ?_
            refine rt_bip rfl k8_13 ?_
            refine RT_step (pc2 := 3) rfl (fun _ _ => rfl) ?_
            refine m_hl hlen (km_is kd2 t2.2.2.2.1).2.2.2.2.2 3 13 _ rfl rfl rfl (fun L2 l0 lw => ?_)
            rw [wj_le t2 3 13 (by decide), jh] at lw
            refine rt_ild rfl lw ?_
            refine rt_bip rfl k8_15 ?_
            refine biT_le rfl (n_le (by decide) (by decide)) ?_
            refine rt_ald rfl l0 ?_
            refine rt_ild rfl lw ?_
            refine rt_bip rfl k8_13 ?_
            refine ba_isub rfl ?_
            rw [show Int32.ofNat 13 - Int32.ofNat 13 = Int32.ofNat 0 from rfl]
            refine ow_pf (l2 := ((180, mcl (Int32.ofNat 0) (Int32.ofNat 0) n lim a2 pl2 (km kd2) nm2 sg2 (Int32.ofNat 0) qm2 wd2 (Int32.ofNat 0) (posb vs o)) :: (181, mtl ts) :: [(182, ia nw), (187, lng nz), (200, ia ((li.set (4 * o) (Int32.ofNat 0)).set (4 * o + 2) (Int32.ofNat j1)))])) rfl rfl rfl rfl rfl hlen rfl rfl ?_
            refine rt_ald rfl l0 ?_
            refine ow_iv0 (l2 := ((180, mcl (Int32.ofNat 0) (Int32.ofNat 0) n lim a3 pl3 (km kd3) nm3 sg3 (Int32.ofNat 0) qm3 wd3 (Int32.ofNat 0) (posb vs o)) :: (181, mtl ts) :: [(182, ia nw), (187, lng nz), (200, ia ((li.set (4 * o) (Int32.ofNat 0)).set (4 * o + 2) (Int32.ofNat j1)))])) rfl rfl rfl rfl hlen rfl rfl rfl ((m3 _ (ov_hl hlen) (ov_at rfl (ov_lt hlen (by decide))) (ov_at rfl (ov_lt hlen (by decide)))).up (by omega)) rfl ?_
            refine rt_ico rfl ki_1 ?_
            exact ow_irt rfl rfl rfl
          refine FR_st2 (l2 := ((180, mcl (Int32.ofNat 0) (Int32.ofNat 0) n lim a3 pl3 (km kd3) nm3 sg3 (Int32.ofNat 0) qm3 wd3 (Int32.ofNat 0) (posb vs o)) :: (181, mtl ts) :: [(182, ia nw), (187, lng nz), (200, ia (((li.set (4 * o) (Int32.ofNat 0)).set (4 * o + 2) (Int32.ofNat j1)).set (4 * o + 3) (Int32.ofNat 0)))])) rfl rfl rfl ?_
          refine rt_bip rfl k8_8 ?_
          refine RT_step (pc2 := 3) rfl (fun _ _ => rfl) ?_
          refine m_vl (z := Int32.ofNat (4 * o)) hlen (km_is kd t.2.2.2.1).2.2.2.2.2 5 8 _ rfl rfl rfl rfl (fun L2 l0 l1 lw => ?_)
          rw [wj_le t 5 8 (by decide), jv] at lw
          refine rt_ild rfl lw ?_
          refine rt_bip rfl k8_12 ?_
          refine biT_le rfl (n_le (by decide) (by decide)) ?_
          refine rt_ald rfl l0 ?_
          refine ow_gf rfl rfl rfl hlen rfl ?_
          refine rt_ild rfl l1 ?_
          refine rt_ild rfl lw ?_
          refine rt_bip rfl k8_8 ?_
          refine ba_isub rfl ?_
          rw [show Int32.ofNat 8 - Int32.ofNat 8 = Int32.ofNat 0 from rfl]
          refine ow_iasN (l2 := ((180, mcl (Int32.ofNat 0) (Int32.ofNat 0) n lim a pl (km kd) nm sg (Int32.ofNat 0) qm wd td (posb vs o)) :: (181, mtl ts) :: [(182, ia nw), (187, lng nz), (200, ia (li.set (4 * o) (Int32.ofNat 0)))])) rfl rfl (by omega) (by omega) hlen rfl rfl ?_
          refine rt_ald rfl l0 ?_
          refine ow_iv0 (l2 := ((180, mcl (Int32.ofNat 0) (Int32.ofNat 0) n lim a1 pl1 (km kd1) nm1 sg1 (Int32.ofNat 0) qm1 wd1 td (posb vs o)) :: (181, mtl ts) :: [(182, ia nw), (187, lng nz), (200, ia (li.set (4 * o) (Int32.ofNat 0)))])) rfl rfl rfl rfl hlen rfl rfl rfl ((m1 _ (ov_hl hlen) (ov_at rfl (ov_lt hlen (by decide))) (ov_at rfl (ov_lt hlen (by decide)))).up (by omega)) rfl ?_
          refine rt_ald rfl l0 ?_
          refine ow_gf rfl rfl rfl hlen rfl ?_
          refine rt_ild rfl l1 ?_
          refine ow_ialN rfl rfl (List.getElem?_set_self (by omega)) (by omega) hlen rfl ?_
          refine RT_step (pc2 := 80) rfl (fun _ _ => rfl) ?_
          refine rt_ald rfl l0 ?_
          refine rt_ild rfl l1 ?_
          refine rt_ico rfl ki_2 ?_
          refine ba_iadd rfl ?_
          rw [n_add]
          refine rt_ald rfl l0 ?_
          refine rt_bip rfl k8_7 ?_
          refine rt_ald rfl l0 ?_
          refine ow_gf rfl rfl rfl hlen rfl ?_
          refine rt_ico rfl ki_1 ?_
          refine ow_ialN rfl rfl hv1 (by omega) hlen rfl ?_
          refine ow_iv1 (l2 := ((180, mcl (Int32.ofNat 0) (Int32.ofNat 0) n lim a2 pl2 (km kd2) nm2 sg2 (Int32.ofNat 0) qm2 wd2 (Int32.ofNat j1) (posb vs o)) :: (181, mtl ts) :: [(182, ia nw), (187, lng nz), (200, ia (li.set (4 * o) (Int32.ofNat 0)))])) rfl rfl rfl rfl hlen rfl rfl rfl (hm2.up (by omega)) rfl ?_
          refine ow_iv1 (l2 := ((180, mcl (Int32.ofNat 0) (Int32.ofNat 0) n lim a2 pl2 (km kd2) nm2 sg2 (Int32.ofNat 0) qm2 wd2 (Int32.ofNat j1) (posb vs o)) :: (181, mtl ts) :: [(182, ia nw), (187, lng nz), (200, ia ((li.set (4 * o) (Int32.ofNat 0)).set (4 * o + 2) (Int32.ofNat j1)))])) rfl rfl rfl rfl hlen rfl rfl rfl ((m_kp1 (ov_hl hlen) (ov_at rfl (ov_lt hlen (by decide))) (ov_at rfl (ov_lt hlen (by decide))) (by (try simp only [List.length_set]); omega) (by omega)).up (by omega)) rfl ?_
          refine bcF_eq rfl (by decide) ?_
          refine rt_ald rfl l0 ?_
          refine rt_ild rfl l1 ?_
          refine rt_ico rfl ki_3 ?_
          refine ba_iadd rfl ?_
          rw [n_add]
          refine rt_ald rfl l0 ?_
          refine ow_iv1 (l2 := ((180, mcl (Int32.ofNat 0) (Int32.ofNat 0) n lim a3 pl3 (km kd3) nm3 sg3 (Int32.ofNat 0) qm3 wd3 (Int32.ofNat 0) (posb vs o)) :: (181, mtl ts) :: [(182, ia nw), (187, lng nz), (200, ia ((li.set (4 * o) (Int32.ofNat 0)).set (4 * o + 2) (Int32.ofNat j1)))])) rfl rfl rfl rfl hlen rfl rfl rfl (hm3.up (by omega)) rfl ?_
          refine ow_iv1 (l2 := ((180, mcl (Int32.ofNat 0) (Int32.ofNat 0) n lim a3 pl3 (km kd3) nm3 sg3 (Int32.ofNat 0) qm3 wd3 (Int32.ofNat 0) (posb vs o)) :: (181, mtl ts) :: [(182, ia nw), (187, lng nz), (200, ia (((li.set (4 * o) (Int32.ofNat 0)).set (4 * o + 2) (Int32.ofNat j1)).set (4 * o + 3) (Int32.ofNat 0)))])) rfl rfl rfl rfl hlen rfl rfl rfl ((m_kp1 (ov_hl hlen) (ov_at rfl (ov_lt hlen (by decide))) (ov_at rfl (ov_lt hlen (by decide))) (by (try simp only [List.length_set]); omega) (by omega)).up (by omega)) rfl ?_
          refine bcF_eq rfl (by decide) ?_
          refine rt_ico rfl ki_1 ?_
          refine RT_step (pc2 := 121) rfl (fun _ _ => rfl) ?_
          exact ow_irt rfl rfl rfl
      · subst ch
        have hk12 := w_k1 t2 (by decide)
        obtain ⟨T3, M3, c3, x3, m3⟩ := s_adv hB hM hb hn hl (po := (posb vs o)) (pl := pl2) (tk := tk) (td := (Int32.ofNat 1)) (fp := fp2) (plM := qm2) t2 (by omega) (by omega)
        obtain ⟨a3, kd3, pl3, w3, le3, nu3, fp3, nm3, sg3, qm3, wd3, rfl, rfl, t3⟩ := c3
        obtain ⟨v1, v2, v3, v4, bx2, hadd⟩ := bx_add bx ho (Int32.ofNat 0) z (Int32.ofNat j1) (Int32.ofNat 1)
        refine Or.inr ⟨_, tk, (Int32.ofNat 1), tcl n lim a3 kd3 pl3 w3 le3 nu3 tk (Int32.ofNat 0) fp3, mcl (Int32.ofNat 0) (Int32.ofNat 0) n lim a3 pl3 (km kd3) nm3 sg3 (Int32.ofNat 0) qm3 wd3 (Int32.ofNat 1) (posb vs o), v1, v2, v3, v4, (((li.set (4 * o) (Int32.ofNat 0)).set (4 * o + 2) (Int32.ofNat j1)).set (4 * o + 3) (Int32.ofNat 1)), tf_td t3, bx2, by simp only [List.length_set]; exact ln, fun H hlen => ?_, fun H hlen => ?_⟩
        · have hz : FR 2 71 [.ref 1, .ref 19, .int (Int32.ofNat Dn)] (ov H ((1, tcl n lim a1 kd1 pl1 w1 le1 nu1 tk (Int32.ofNat 0) fp1) :: (2, bcl bs) :: [(13, dcl13 P Dn lw cl id gl bo), (14, lng pn), (15, ia ri), (16, ia lf), (17, ia wa), (18, ia fo), (19, lng dn), (20, ia ha), (21, ia pa), (22, ia bl), (105, bkc o bv), (106, ia u1), (107, ia u2), (108, ia u3), (109, ia u4)])) (some (.int (Int32.ofNat j1)), ov (ov H ((1, tcl n lim a1 kd1 pl1 w1 le1 nu1 tk (Int32.ofNat 0) fp1) :: (2, bcl bs) :: [(13, dcl13 P Dn lw cl id gl bo), (14, lng pn), (15, ia ri), (16, ia lf), (17, ia wa), (18, ia fo), (19, lng dn), (20, ia ha), (21, ia pa), (22, ia bl), (105, bkc o bv), (106, ia u1), (107, ia u2), (108, ia u3), (109, ia u4)])) [(1, tcl n lim a1 kd1 pl1 w1 le1 nu1 tk (Int32.ofNat 0) fp1)]) := by
            refine FR_st2 (l2 := ((1, tcl n lim a1 kd1 pl1 w1 le1 nu1 tk (Int32.ofNat 0) fp1) :: (2, bcl bs) :: [(13, dcl13 P Dn lw cl id gl bo), (14, lng pn), (15, ia ri), (16, ia lf), (17, ia wa), (18, ia fo), (19, lng dn), (20, ia ha), (21, ia pa), (22, ia bl), (105, bkc o bv), (106, ia u1), (107, ia u2), (108, ia u3), (109, ia u4)])) rfl rfl rfl ?_
            refine RT_step (pc2 := 1) rfl (fun _ _ => rfl) ?_
            refine ow_gf rfl rfl rfl hlen rfl ?_
            refine RT_step (pc2 := 7) rfl (fun _ _ => rfl) ?_
            refine rt_acE rfl (by omega) (by omega) ?_
            refine RT_if c1 ?_
            refine RT_step (pc2 := 19) rfl (fun _ _ => rfl) ?_
            refine RT_step (pc2 := 20) rfl (fun _ _ => rfl) ?_
            refine RT_step (pc2 := 21) rfl (fun _ _ => rfl) ?_
            refine ow_gf rfl rfl rfl hlen rfl ?_
            refine ow_is1 rfl rfl rfl rfl rfl ((x_find19 (ov_hl hlen) (ov_at rfl (ov_lt hlen (by decide))) (by omega) (by omega)).up (by decide)) rfl ?_
            rw [show fdI (fd dn le1 0 Dn 0) = Int32.ofNat j1 from by rw [e1]; rfl]
            refine RT_step (pc2 := 28) rfl (fun _ _ => rfl) ?_
            refine RT_step (pc2 := 29) rfl (fun _ _ => rfl) ?_
            refine rt_ico rfl ki_m1 ?_
            refine biF_ne rfl (n_m1 (by omega)) ?_
            refine RT_step (pc2 := 40) rfl (fun _ _ => rfl) ?_
            exact ow_irt rfl rfl rfl
          have hy : FR 3 63 [.ref 13, .ref 1] (ov H ((1, tcl n lim a1 kd1 pl1 w1 le1 nu1 tk (Int32.ofNat 0) fp1) :: (2, bcl bs) :: [(13, dcl13 P Dn lw cl id gl bo), (14, lng pn), (15, ia ri), (16, ia lf), (17, ia wa), (18, ia fo), (19, lng dn), (20, ia ha), (21, ia pa), (22, ia bl), (105, bkc o bv), (106, ia u1), (107, ia u2), (108, ia u3), (109, ia u4)])) (some (.int (Int32.ofNat j1)), ov (ov H ((1, tcl n lim a1 kd1 pl1 w1 le1 nu1 tk (Int32.ofNat 0) fp1) :: (2, bcl bs) :: [(13, dcl13 P Dn lw cl id gl bo), (14, lng pn), (15, ia ri), (16, ia lf), (17, ia wa), (18, ia fo), (19, lng dn), (20, ia ha), (21, ia pa), (22, ia bl), (105, bkc o bv), (106, ia u1), (107, ia u2), (108, ia u3), (109, ia u4)])) [(1, tcl n lim a1 kd1 pl1 w1 le1 nu1 tk (Int32.ofNat 0) fp1)]) := by
            refine FR_st2 (l2 := ((1, tcl n lim a1 kd1 pl1 w1 le1 nu1 tk (Int32.ofNat 0) fp1) :: (2, bcl bs) :: [(13, dcl13 P Dn lw cl id gl bo), (14, lng pn), (15, ia ri), (16, ia lf), (17, ia wa), (18, ia fo), (19, lng dn), (20, ia ha), (21, ia pa), (22, ia bl), (105, bkc o bv), (106, ia u1), (107, ia u2), (108, ia u3), (109, ia u4)])) rfl rfl rfl ?_
            refine RT_step (pc2 := 1) rfl (fun _ _ => rfl) ?_
            refine RT_step (pc2 := 2) rfl (fun _ _ => rfl) ?_
            refine ow_gf rfl rfl rfl hlen rfl ?_
            refine RT_step (pc2 := 6) rfl (fun _ _ => rfl) ?_
            refine ow_gf rfl rfl rfl hlen rfl ?_
            refine ow_is1 (l2 := ((1, tcl n lim a1 kd1 pl1 w1 le1 nu1 tk (Int32.ofNat 0) fp1) :: (2, bcl bs) :: [(13, dcl13 P Dn lw cl id gl bo), (14, lng pn), (15, ia ri), (16, ia lf), (17, ia wa), (18, ia fo), (19, lng dn), (20, ia ha), (21, ia pa), (22, ia bl), (105, bkc o bv), (106, ia u1), (107, ia u2), (108, ia u3), (109, ia u4)])) rfl rfl rfl rfl rfl (hz.up (by decide)) rfl ?_
            exact ow_irt rfl rfl rfl
          refine FR_st2 (l2 := ((1, tcl n lim a3 kd3 pl3 w3 le3 nu3 tk (Int32.ofNat 0) fp3) :: (2, bcl bs) :: [(13, dcl13 P Dn lw cl id gl bo), (14, lng pn), (15, ia ri), (16, ia lf), (17, ia wa), (18, ia fo), (19, lng dn), (20, ia ha), (21, ia pa), (22, ia bl), (105, bkc (o + 1) bv), (106, ia v1), (107, ia v2), (108, ia v3), (109, ia v4)])) rfl rfl rfl ?_
          refine RT_step (pc2 := 1) rfl (fun _ _ => rfl) ?_
          refine ow_iv0 (l2 := ((1, tcl n lim a1 kd1 pl1 w1 le1 nu1 tk (Int32.ofNat 0) fp1) :: (2, bcl bs) :: [(13, dcl13 P Dn lw cl id gl bo), (14, lng pn), (15, ia ri), (16, ia lf), (17, ia wa), (18, ia fo), (19, lng dn), (20, ia ha), (21, ia pa), (22, ia bl), (105, bkc o bv), (106, ia u1), (107, ia u2), (108, ia u3), (109, ia u4)])) rfl rfl rfl rfl hlen rfl rfl rfl ((x1 _ (ov_hl hlen) (ov_at rfl (ov_lt hlen (by decide))) (ov_at rfl (ov_lt hlen (by decide)))).up (by decide)) rfl ?_
          refine RT_step (pc2 := 5) rfl (fun _ _ => rfl) ?_
          refine RT_step (pc2 := 6) rfl (fun _ _ => rfl) ?_
          refine ow_iv1 (l2 := ((1, tcl n lim a1 kd1 pl1 w1 le1 nu1 tk (Int32.ofNat 0) fp1) :: (2, bcl bs) :: [(13, dcl13 P Dn lw cl id gl bo), (14, lng pn), (15, ia ri), (16, ia lf), (17, ia wa), (18, ia fo), (19, lng dn), (20, ia ha), (21, ia pa), (22, ia bl), (105, bkc o bv), (106, ia u1), (107, ia u2), (108, ia u3), (109, ia u4)])) rfl rfl rfl rfl hlen rfl rfl rfl (hy.up (by decide)) rfl ?_
          refine RT_step (pc2 := 11) rfl (fun _ _ => rfl) ?_
          refine RT_step (pc2 := 13) rfl (fun _ _ => rfl) ?_
          refine rt_ico rfl ki_m1 ?_
          refine biF_ne rfl (n_m1 (by omega)) ?_
          refine RT_step (pc2 := 20) rfl (fun _ _ => rfl) ?_
          refine ow_iv0 (l2 := ((1, tcl n lim a2 kd2 pl2 18 le2 nu2 tk (Int32.ofNat 0) fp2) :: (2, bcl bs) :: [(13, dcl13 P Dn lw cl id gl bo), (14, lng pn), (15, ia ri), (16, ia lf), (17, ia wa), (18, ia fo), (19, lng dn), (20, ia ha), (21, ia pa), (22, ia bl), (105, bkc o bv), (106, ia u1), (107, ia u2), (108, ia u3), (109, ia u4)])) rfl rfl rfl rfl hlen rfl rfl rfl ((x2 _ (ov_hl hlen) (ov_at rfl (ov_lt hlen (by decide))) (ov_at rfl (ov_lt hlen (by decide)))).up (by decide)) rfl ?_
          refine RT_step (pc2 := 26) rfl (fun _ _ => rfl) ?_
          refine RT_step (pc2 := 27) rfl (fun _ _ => rfl) ?_
          refine ow_gf rfl rfl rfl hlen rfl ?_
          refine rt_ord rfl (by decide) rfl ?_
          refine rt_isw rfl (v := 14) (by decide +kernel) ?_
          refine RT_step (pc2 := 72) rfl (fun _ _ => rfl) ?_
          refine RT_step (pc2 := 73) rfl (fun _ _ => rfl) ?_
          refine rt_ico rfl ki_0 ?_
          refine RT_step (pc2 := 75) rfl (fun _ _ => rfl) ?_
          refine RT_step (pc2 := 77) rfl (fun _ _ => rfl) ?_
          refine rt_ico rfl ki_1 ?_
          refine ow_iv0 (l2 := ((1, tcl n lim a2 kd2 pl2 18 le2 nu2 tk (Int32.ofNat 0) fp2) :: (2, bcl bs) :: [(13, dcl13 P Dn lw cl id gl bo), (14, lng pn), (15, ia ri), (16, ia lf), (17, ia wa), (18, ia fo), (19, lng dn), (20, ia ha), (21, ia pa), (22, ia bl), (105, bkc (o + 1) bv), (106, ia v1), (107, ia v2), (108, ia v3), (109, ia v4)])) rfl rfl rfl rfl hlen rfl rfl rfl ((hadd bv _ (ov_hl hlen) (ov_at rfl (ov_lt hlen (by decide))) (ov_at rfl (ov_lt hlen (by decide))) (ov_at rfl (ov_lt hlen (by decide))) (ov_at rfl (ov_lt hlen (by decide))) (ov_at rfl (ov_lt hlen (by decide)))).up (by decide)) rfl ?_
          refine RT_step (pc2 := 102) rfl (fun _ _ => rfl) ?_
          refine RT_step (pc2 := 103) rfl (fun _ _ => rfl) ?_
          refine ow_iv0 (l2 := ((1, tcl n lim a3 kd3 pl3 w3 le3 nu3 tk (Int32.ofNat 0) fp3) :: (2, bcl bs) :: [(13, dcl13 P Dn lw cl id gl bo), (14, lng pn), (15, ia ri), (16, ia lf), (17, ia wa), (18, ia fo), (19, lng dn), (20, ia ha), (21, ia pa), (22, ia bl), (105, bkc (o + 1) bv), (106, ia v1), (107, ia v2), (108, ia v3), (109, ia v4)])) rfl rfl rfl rfl hlen rfl rfl rfl ((x3 _ (ov_hl hlen) (ov_at rfl (ov_lt hlen (by decide))) (ov_at rfl (ov_lt hlen (by decide)))).up (by decide)) rfl ?_
          refine rt_ico rfl ki_1 ?_
          exact ow_irt rfl rfl rfl
        · have hm2 : FR 6 257 [.ref 180, .int (Int32.ofNat 7), .int (Int32.ofNat Dn)] (ov H ((180, mcl (Int32.ofNat 0) (Int32.ofNat 0) n lim a1 pl1 (km kd1) nm1 sg1 (Int32.ofNat 0) qm1 wd1 td (posb vs o)) :: (181, mtl ts) :: [(182, ia nw), (187, lng nz), (200, ia (li.set (4 * o) (Int32.ofNat 0)))])) (some (.int (Int32.ofNat 1)), ov (ov H ((180, mcl (Int32.ofNat 0) (Int32.ofNat 0) n lim a1 pl1 (km kd1) nm1 sg1 (Int32.ofNat 0) qm1 wd1 td (posb vs o)) :: (181, mtl ts) :: [(182, ia nw), (187, lng nz), (200, ia (li.set (4 * o) (Int32.ofNat 0)))])) [(180, mcl (Int32.ofNat 0) (Int32.ofNat 0) n lim a2 pl2 (km kd2) nm2 sg2 (Int32.ofNat 0) qm2 wd2 (Int32.ofNat j1) (posb vs o))]) := by
            refine FR_st2 (l2 := ((180, mcl (Int32.ofNat 0) (Int32.ofNat 0) n lim a2 pl2 (km kd2) nm2 sg2 (Int32.ofNat 0) qm2 wd2 (Int32.ofNat j1) (posb vs o)) :: (181, mtl ts) :: [(182, ia nw), (187, lng nz), (200, ia (li.set (4 * o) (Int32.ofNat 0)))])) rfl rfl rfl ?_
            refine RT_step (pc2 := 1) rfl (fun _ _ => rfl) ?_
            refine ow_iv1 rfl rfl rfl rfl hlen rfl rfl rfl ((m_isName (ov_hl hlen) (ov_at rfl (ov_lt hlen (by decide))) (km_is kd1 t1.2.2.2.1).2.2.2.2.2).up (by omega)) rfl ?_
            refine bcF_ne rfl (b01_t hnm1) ?_
            refine RT_step (pc2 := 14) rfl (fun _ _ => rfl) ?_
            refine RT_step (pc2 := 15) rfl (fun _ _ => rfl) ?_
            refine ow_gf rfl rfl rfl hlen rfl ?_
            refine RT_step (pc2 := 19) rfl (fun _ _ => rfl) ?_
            refine RT_step (pc2 := 20) rfl (fun _ _ => rfl) ?_
            refine RT_step (pc2 := 21) rfl (fun _ _ => rfl) ?_
            refine ow_gf rfl rfl rfl hlen rfl ?_
            refine ow_is1 rfl rfl rfl rfl rfl ((m_find7 (bs0 := 7) (cnt := Dn) (ov_hl hlen) (ov_at rfl (ov_lt hlen (by decide))) (by omega) (by omega)).up (by omega)) rfl ?_
            rw [show fdI (fd nz wd1 7 Dn 0) = Int32.ofNat j1 from by rw [g1]; rfl]
            refine ow_pf (l2 := ((180, mcl (Int32.ofNat 0) (Int32.ofNat 0) n lim a1 pl1 (km kd1) nm1 sg1 (Int32.ofNat 0) qm1 wd1 (Int32.ofNat j1) (posb vs o)) :: (181, mtl ts) :: [(182, ia nw), (187, lng nz), (200, ia (li.set (4 * o) (Int32.ofNat 0)))])) rfl rfl rfl rfl rfl hlen rfl rfl ?_
            refine RT_step (pc2 := 31) rfl (fun _ _ => rfl) ?_
            refine ow_gf rfl rfl rfl hlen rfl ?_
            refine rt_ico rfl ki_m1 ?_
            refine biF_ne rfl (n_m1 (by omega)) ?_
            refine RT_step (pc2 := 45) rfl (fun _ _ => rfl) ?_
            refine ow_iv0 (l2 := ((180, mcl (Int32.ofNat 0) (Int32.ofNat 0) n lim a2 pl2 (km kd2) nm2 sg2 (Int32.ofNat 0) qm2 wd2 (Int32.ofNat j1) (posb vs o)) :: (181, mtl ts) :: [(182, ia nw), (187, lng nz), (200, ia (li.set (4 * o) (Int32.ofNat 0)))])) rfl rfl rfl rfl hlen rfl rfl rfl ((m2 _ (ov_hl hlen) (ov_at rfl (ov_lt hlen (by decide))) (ov_at rfl (ov_lt hlen (by decide)))).up (by omega)) rfl ?_
            refine rt_ico rfl ki_1 ?_
            exact ow_irt rfl rfl rfl
          have hm3 : FR 6 255 [.ref 180] (ov H ((180, mcl (Int32.ofNat 0) (Int32.ofNat 0) n lim a2 pl2 (km kd2) nm2 sg2 (Int32.ofNat 0) qm2 wd2 (Int32.ofNat j1) (posb vs o)) :: (181, mtl ts) :: [(182, ia nw), (187, lng nz), (200, ia ((li.set (4 * o) (Int32.ofNat 0)).set (4 * o + 2) (Int32.ofNat j1)))])) (some (.int (Int32.ofNat 1)), ov (ov H ((180, mcl (Int32.ofNat 0) (Int32.ofNat 0) n lim a2 pl2 (km kd2) nm2 sg2 (Int32.ofNat 0) qm2 wd2 (Int32.ofNat j1) (posb vs o)) :: (181, mtl ts) :: [(182, ia nw), (187, lng nz), (200, ia ((li.set (4 * o) (Int32.ofNat 0)).set (4 * o + 2) (Int32.ofNat j1)))])) [(180, mcl (Int32.ofNat 0) (Int32.ofNat 0) n lim a3 pl3 (km kd3) nm3 sg3 (Int32.ofNat 0) qm3 wd3 (Int32.ofNat 1) (posb vs o))]) := by
            refine FR_st2 (l2 := ((180, mcl (Int32.ofNat 0) (Int32.ofNat 0) n lim a3 pl3 (km kd3) nm3 sg3 (Int32.ofNat 0) qm3 wd3 (Int32.ofNat 1) (posb vs o)) :: (181, mtl ts) :: [(182, ia nw), (187, lng nz), (200, ia ((li.set (4 * o) (Int32.ofNat 0)).set (4 * o + 2) (Int32.ofNat j1)))])) rfl rfl rfl ?_
            refine rt_bip rfl k8_13 ?_
            refine RT_step (pc2 := 3) rfl (fun _ _ => rfl) ?_
            refine m_hl hlen (km_is kd2 t2.2.2.2.1).2.2.2.2.2 3 13 _ rfl rfl rfl (fun L2 l0 lw => ?_)
            rw [wj_le t2 3 13 (by decide), jh] at lw
            refine rt_ild rfl lw ?_
            refine rt_bip rfl k8_15 ?_
            refine biT_le rfl (n_le (by decide) (by decide)) ?_
            refine rt_ald rfl l0 ?_
            refine rt_ild rfl lw ?_
            refine rt_bip rfl k8_13 ?_
            refine ba_isub rfl ?_
            rw [show Int32.ofNat 14 - Int32.ofNat 13 = Int32.ofNat 1 from rfl]
            refine ow_pf (l2 := ((180, mcl (Int32.ofNat 0) (Int32.ofNat 0) n lim a2 pl2 (km kd2) nm2 sg2 (Int32.ofNat 0) qm2 wd2 (Int32.ofNat 1) (posb vs o)) :: (181, mtl ts) :: [(182, ia nw), (187, lng nz), (200, ia ((li.set (4 * o) (Int32.ofNat 0)).set (4 * o + 2) (Int32.ofNat j1)))])) rfl rfl rfl rfl rfl hlen rfl rfl ?_
            refine rt_ald rfl l0 ?_
            refine ow_iv0 (l2 := ((180, mcl (Int32.ofNat 0) (Int32.ofNat 0) n lim a3 pl3 (km kd3) nm3 sg3 (Int32.ofNat 0) qm3 wd3 (Int32.ofNat 1) (posb vs o)) :: (181, mtl ts) :: [(182, ia nw), (187, lng nz), (200, ia ((li.set (4 * o) (Int32.ofNat 0)).set (4 * o + 2) (Int32.ofNat j1)))])) rfl rfl rfl rfl hlen rfl rfl rfl ((m3 _ (ov_hl hlen) (ov_at rfl (ov_lt hlen (by decide))) (ov_at rfl (ov_lt hlen (by decide)))).up (by omega)) rfl ?_
            refine rt_ico rfl ki_1 ?_
            exact ow_irt rfl rfl rfl
          refine FR_st2 (l2 := ((180, mcl (Int32.ofNat 0) (Int32.ofNat 0) n lim a3 pl3 (km kd3) nm3 sg3 (Int32.ofNat 0) qm3 wd3 (Int32.ofNat 1) (posb vs o)) :: (181, mtl ts) :: [(182, ia nw), (187, lng nz), (200, ia (((li.set (4 * o) (Int32.ofNat 0)).set (4 * o + 2) (Int32.ofNat j1)).set (4 * o + 3) (Int32.ofNat 1)))])) rfl rfl rfl ?_
          refine rt_bip rfl k8_8 ?_
          refine RT_step (pc2 := 3) rfl (fun _ _ => rfl) ?_
          refine m_vl (z := Int32.ofNat (4 * o)) hlen (km_is kd t.2.2.2.1).2.2.2.2.2 5 8 _ rfl rfl rfl rfl (fun L2 l0 l1 lw => ?_)
          rw [wj_le t 5 8 (by decide), jv] at lw
          refine rt_ild rfl lw ?_
          refine rt_bip rfl k8_12 ?_
          refine biT_le rfl (n_le (by decide) (by decide)) ?_
          refine rt_ald rfl l0 ?_
          refine ow_gf rfl rfl rfl hlen rfl ?_
          refine rt_ild rfl l1 ?_
          refine rt_ild rfl lw ?_
          refine rt_bip rfl k8_8 ?_
          refine ba_isub rfl ?_
          rw [show Int32.ofNat 8 - Int32.ofNat 8 = Int32.ofNat 0 from rfl]
          refine ow_iasN (l2 := ((180, mcl (Int32.ofNat 0) (Int32.ofNat 0) n lim a pl (km kd) nm sg (Int32.ofNat 0) qm wd td (posb vs o)) :: (181, mtl ts) :: [(182, ia nw), (187, lng nz), (200, ia (li.set (4 * o) (Int32.ofNat 0)))])) rfl rfl (by omega) (by omega) hlen rfl rfl ?_
          refine rt_ald rfl l0 ?_
          refine ow_iv0 (l2 := ((180, mcl (Int32.ofNat 0) (Int32.ofNat 0) n lim a1 pl1 (km kd1) nm1 sg1 (Int32.ofNat 0) qm1 wd1 td (posb vs o)) :: (181, mtl ts) :: [(182, ia nw), (187, lng nz), (200, ia (li.set (4 * o) (Int32.ofNat 0)))])) rfl rfl rfl rfl hlen rfl rfl rfl ((m1 _ (ov_hl hlen) (ov_at rfl (ov_lt hlen (by decide))) (ov_at rfl (ov_lt hlen (by decide)))).up (by omega)) rfl ?_
          refine rt_ald rfl l0 ?_
          refine ow_gf rfl rfl rfl hlen rfl ?_
          refine rt_ild rfl l1 ?_
          refine ow_ialN rfl rfl (List.getElem?_set_self (by omega)) (by omega) hlen rfl ?_
          refine RT_step (pc2 := 80) rfl (fun _ _ => rfl) ?_
          refine rt_ald rfl l0 ?_
          refine rt_ild rfl l1 ?_
          refine rt_ico rfl ki_2 ?_
          refine ba_iadd rfl ?_
          rw [n_add]
          refine rt_ald rfl l0 ?_
          refine rt_bip rfl k8_7 ?_
          refine rt_ald rfl l0 ?_
          refine ow_gf rfl rfl rfl hlen rfl ?_
          refine rt_ico rfl ki_1 ?_
          refine ow_ialN rfl rfl hv1 (by omega) hlen rfl ?_
          refine ow_iv1 (l2 := ((180, mcl (Int32.ofNat 0) (Int32.ofNat 0) n lim a2 pl2 (km kd2) nm2 sg2 (Int32.ofNat 0) qm2 wd2 (Int32.ofNat j1) (posb vs o)) :: (181, mtl ts) :: [(182, ia nw), (187, lng nz), (200, ia (li.set (4 * o) (Int32.ofNat 0)))])) rfl rfl rfl rfl hlen rfl rfl rfl (hm2.up (by omega)) rfl ?_
          refine ow_iv1 (l2 := ((180, mcl (Int32.ofNat 0) (Int32.ofNat 0) n lim a2 pl2 (km kd2) nm2 sg2 (Int32.ofNat 0) qm2 wd2 (Int32.ofNat j1) (posb vs o)) :: (181, mtl ts) :: [(182, ia nw), (187, lng nz), (200, ia ((li.set (4 * o) (Int32.ofNat 0)).set (4 * o + 2) (Int32.ofNat j1)))])) rfl rfl rfl rfl hlen rfl rfl rfl ((m_kp1 (ov_hl hlen) (ov_at rfl (ov_lt hlen (by decide))) (ov_at rfl (ov_lt hlen (by decide))) (by (try simp only [List.length_set]); omega) (by omega)).up (by omega)) rfl ?_
          refine bcF_eq rfl (by decide) ?_
          refine rt_ald rfl l0 ?_
          refine rt_ild rfl l1 ?_
          refine rt_ico rfl ki_3 ?_
          refine ba_iadd rfl ?_
          rw [n_add]
          refine rt_ald rfl l0 ?_
          refine ow_iv1 (l2 := ((180, mcl (Int32.ofNat 0) (Int32.ofNat 0) n lim a3 pl3 (km kd3) nm3 sg3 (Int32.ofNat 0) qm3 wd3 (Int32.ofNat 1) (posb vs o)) :: (181, mtl ts) :: [(182, ia nw), (187, lng nz), (200, ia ((li.set (4 * o) (Int32.ofNat 0)).set (4 * o + 2) (Int32.ofNat j1)))])) rfl rfl rfl rfl hlen rfl rfl rfl (hm3.up (by omega)) rfl ?_
          refine ow_iv1 (l2 := ((180, mcl (Int32.ofNat 0) (Int32.ofNat 0) n lim a3 pl3 (km kd3) nm3 sg3 (Int32.ofNat 0) qm3 wd3 (Int32.ofNat 1) (posb vs o)) :: (181, mtl ts) :: [(182, ia nw), (187, lng nz), (200, ia (((li.set (4 * o) (Int32.ofNat 0)).set (4 * o + 2) (Int32.ofNat j1)).set (4 * o + 3) (Int32.ofNat 1)))])) rfl rfl rfl rfl hlen rfl rfl rfl ((m_kp1 (ov_hl hlen) (ov_at rfl (ov_lt hlen (by decide))) (ov_at rfl (ov_lt hlen (by decide))) (by (try simp only [List.length_set]); omega) (by omega)).up (by omega)) rfl ?_
          refine bcF_eq rfl (by decide) ?_
          refine rt_ico rfl ki_1 ?_
          refine RT_step (pc2 := 121) rfl (fun _ _ => rfl) ?_
          exact ow_irt rfl rfl rfl
      · subst ch
        have hk12 := w_k1 t2 (by decide)
        obtain ⟨T3, M3, c3, x3, m3⟩ := s_adv hB hM hb hn hl (po := (posb vs o)) (pl := pl2) (tk := tk) (td := (Int32.ofNat 2)) (fp := fp2) (plM := qm2) t2 (by omega) (by omega)
        obtain ⟨a3, kd3, pl3, w3, le3, nu3, fp3, nm3, sg3, qm3, wd3, rfl, rfl, t3⟩ := c3
        obtain ⟨v1, v2, v3, v4, bx2, hadd⟩ := bx_add bx ho (Int32.ofNat 0) z (Int32.ofNat j1) (Int32.ofNat 2)
        refine Or.inr ⟨_, tk, (Int32.ofNat 2), tcl n lim a3 kd3 pl3 w3 le3 nu3 tk (Int32.ofNat 0) fp3, mcl (Int32.ofNat 0) (Int32.ofNat 0) n lim a3 pl3 (km kd3) nm3 sg3 (Int32.ofNat 0) qm3 wd3 (Int32.ofNat 2) (posb vs o), v1, v2, v3, v4, (((li.set (4 * o) (Int32.ofNat 0)).set (4 * o + 2) (Int32.ofNat j1)).set (4 * o + 3) (Int32.ofNat 2)), tf_td t3, bx2, by simp only [List.length_set]; exact ln, fun H hlen => ?_, fun H hlen => ?_⟩
        · have hz : FR 2 71 [.ref 1, .ref 19, .int (Int32.ofNat Dn)] (ov H ((1, tcl n lim a1 kd1 pl1 w1 le1 nu1 tk (Int32.ofNat 0) fp1) :: (2, bcl bs) :: [(13, dcl13 P Dn lw cl id gl bo), (14, lng pn), (15, ia ri), (16, ia lf), (17, ia wa), (18, ia fo), (19, lng dn), (20, ia ha), (21, ia pa), (22, ia bl), (105, bkc o bv), (106, ia u1), (107, ia u2), (108, ia u3), (109, ia u4)])) (some (.int (Int32.ofNat j1)), ov (ov H ((1, tcl n lim a1 kd1 pl1 w1 le1 nu1 tk (Int32.ofNat 0) fp1) :: (2, bcl bs) :: [(13, dcl13 P Dn lw cl id gl bo), (14, lng pn), (15, ia ri), (16, ia lf), (17, ia wa), (18, ia fo), (19, lng dn), (20, ia ha), (21, ia pa), (22, ia bl), (105, bkc o bv), (106, ia u1), (107, ia u2), (108, ia u3), (109, ia u4)])) [(1, tcl n lim a1 kd1 pl1 w1 le1 nu1 tk (Int32.ofNat 0) fp1)]) := by
            refine FR_st2 (l2 := ((1, tcl n lim a1 kd1 pl1 w1 le1 nu1 tk (Int32.ofNat 0) fp1) :: (2, bcl bs) :: [(13, dcl13 P Dn lw cl id gl bo), (14, lng pn), (15, ia ri), (16, ia lf), (17, ia wa), (18, ia fo), (19, lng dn), (20, ia ha), (21, ia pa), (22, ia bl), (105, bkc o bv), (106, ia u1), (107, ia u2), (108, ia u3), (109, ia u4)])) rfl rfl rfl ?_
            refine RT_step (pc2 := 1) rfl (fun _ _ => rfl) ?_
            refine ow_gf rfl rfl rfl hlen rfl ?_
            refine RT_step (pc2 := 7) rfl (fun _ _ => rfl) ?_
            refine rt_acE rfl (by omega) (by omega) ?_
            refine RT_if c1 ?_
            refine RT_step (pc2 := 19) rfl (fun _ _ => rfl) ?_
            refine RT_step (pc2 := 20) rfl (fun _ _ => rfl) ?_
            refine RT_step (pc2 := 21) rfl (fun _ _ => rfl) ?_
            refine ow_gf rfl rfl rfl hlen rfl ?_
            refine ow_is1 rfl rfl rfl rfl rfl ((x_find19 (ov_hl hlen) (ov_at rfl (ov_lt hlen (by decide))) (by omega) (by omega)).up (by decide)) rfl ?_
            rw [show fdI (fd dn le1 0 Dn 0) = Int32.ofNat j1 from by rw [e1]; rfl]
            refine RT_step (pc2 := 28) rfl (fun _ _ => rfl) ?_
            refine RT_step (pc2 := 29) rfl (fun _ _ => rfl) ?_
            refine rt_ico rfl ki_m1 ?_
            refine biF_ne rfl (n_m1 (by omega)) ?_
            refine RT_step (pc2 := 40) rfl (fun _ _ => rfl) ?_
            exact ow_irt rfl rfl rfl
          have hy : FR 3 63 [.ref 13, .ref 1] (ov H ((1, tcl n lim a1 kd1 pl1 w1 le1 nu1 tk (Int32.ofNat 0) fp1) :: (2, bcl bs) :: [(13, dcl13 P Dn lw cl id gl bo), (14, lng pn), (15, ia ri), (16, ia lf), (17, ia wa), (18, ia fo), (19, lng dn), (20, ia ha), (21, ia pa), (22, ia bl), (105, bkc o bv), (106, ia u1), (107, ia u2), (108, ia u3), (109, ia u4)])) (some (.int (Int32.ofNat j1)), ov (ov H ((1, tcl n lim a1 kd1 pl1 w1 le1 nu1 tk (Int32.ofNat 0) fp1) :: (2, bcl bs) :: [(13, dcl13 P Dn lw cl id gl bo), (14, lng pn), (15, ia ri), (16, ia lf), (17, ia wa), (18, ia fo), (19, lng dn), (20, ia ha), (21, ia pa), (22, ia bl), (105, bkc o bv), (106, ia u1), (107, ia u2), (108, ia u3), (109, ia u4)])) [(1, tcl n lim a1 kd1 pl1 w1 le1 nu1 tk (Int32.ofNat 0) fp1)]) := by
            refine FR_st2 (l2 := ((1, tcl n lim a1 kd1 pl1 w1 le1 nu1 tk (Int32.ofNat 0) fp1) :: (2, bcl bs) :: [(13, dcl13 P Dn lw cl id gl bo), (14, lng pn), (15, ia ri), (16, ia lf), (17, ia wa), (18, ia fo), (19, lng dn), (20, ia ha), (21, ia pa), (22, ia bl), (105, bkc o bv), (106, ia u1), (107, ia u2), (108, ia u3), (109, ia u4)])) rfl rfl rfl ?_
            refine RT_step (pc2 := 1) rfl (fun _ _ => rfl) ?_
            refine RT_step (pc2 := 2) rfl (fun _ _ => rfl) ?_
            refine ow_gf rfl rfl rfl hlen rfl ?_
            refine RT_step (pc2 := 6) rfl (fun _ _ => rfl) ?_
            refine ow_gf rfl rfl rfl hlen rfl ?_
            refine ow_is1 (l2 := ((1, tcl n lim a1 kd1 pl1 w1 le1 nu1 tk (Int32.ofNat 0) fp1) :: (2, bcl bs) :: [(13, dcl13 P Dn lw cl id gl bo), (14, lng pn), (15, ia ri), (16, ia lf), (17, ia wa), (18, ia fo), (19, lng dn), (20, ia ha), (21, ia pa), (22, ia bl), (105, bkc o bv), (106, ia u1), (107, ia u2), (108, ia u3), (109, ia u4)])) rfl rfl rfl rfl rfl (hz.up (by decide)) rfl ?_
            exact ow_irt rfl rfl rfl
          refine FR_st2 (l2 := ((1, tcl n lim a3 kd3 pl3 w3 le3 nu3 tk (Int32.ofNat 0) fp3) :: (2, bcl bs) :: [(13, dcl13 P Dn lw cl id gl bo), (14, lng pn), (15, ia ri), (16, ia lf), (17, ia wa), (18, ia fo), (19, lng dn), (20, ia ha), (21, ia pa), (22, ia bl), (105, bkc (o + 1) bv), (106, ia v1), (107, ia v2), (108, ia v3), (109, ia v4)])) rfl rfl rfl ?_
          refine RT_step (pc2 := 1) rfl (fun _ _ => rfl) ?_
          refine ow_iv0 (l2 := ((1, tcl n lim a1 kd1 pl1 w1 le1 nu1 tk (Int32.ofNat 0) fp1) :: (2, bcl bs) :: [(13, dcl13 P Dn lw cl id gl bo), (14, lng pn), (15, ia ri), (16, ia lf), (17, ia wa), (18, ia fo), (19, lng dn), (20, ia ha), (21, ia pa), (22, ia bl), (105, bkc o bv), (106, ia u1), (107, ia u2), (108, ia u3), (109, ia u4)])) rfl rfl rfl rfl hlen rfl rfl rfl ((x1 _ (ov_hl hlen) (ov_at rfl (ov_lt hlen (by decide))) (ov_at rfl (ov_lt hlen (by decide)))).up (by decide)) rfl ?_
          refine RT_step (pc2 := 5) rfl (fun _ _ => rfl) ?_
          refine RT_step (pc2 := 6) rfl (fun _ _ => rfl) ?_
          refine ow_iv1 (l2 := ((1, tcl n lim a1 kd1 pl1 w1 le1 nu1 tk (Int32.ofNat 0) fp1) :: (2, bcl bs) :: [(13, dcl13 P Dn lw cl id gl bo), (14, lng pn), (15, ia ri), (16, ia lf), (17, ia wa), (18, ia fo), (19, lng dn), (20, ia ha), (21, ia pa), (22, ia bl), (105, bkc o bv), (106, ia u1), (107, ia u2), (108, ia u3), (109, ia u4)])) rfl rfl rfl rfl hlen rfl rfl rfl (hy.up (by decide)) rfl ?_
          refine RT_step (pc2 := 11) rfl (fun _ _ => rfl) ?_
          refine RT_step (pc2 := 13) rfl (fun _ _ => rfl) ?_
          refine rt_ico rfl ki_m1 ?_
          refine biF_ne rfl (n_m1 (by omega)) ?_
          refine RT_step (pc2 := 20) rfl (fun _ _ => rfl) ?_
          refine ow_iv0 (l2 := ((1, tcl n lim a2 kd2 pl2 19 le2 nu2 tk (Int32.ofNat 0) fp2) :: (2, bcl bs) :: [(13, dcl13 P Dn lw cl id gl bo), (14, lng pn), (15, ia ri), (16, ia lf), (17, ia wa), (18, ia fo), (19, lng dn), (20, ia ha), (21, ia pa), (22, ia bl), (105, bkc o bv), (106, ia u1), (107, ia u2), (108, ia u3), (109, ia u4)])) rfl rfl rfl rfl hlen rfl rfl rfl ((x2 _ (ov_hl hlen) (ov_at rfl (ov_lt hlen (by decide))) (ov_at rfl (ov_lt hlen (by decide)))).up (by decide)) rfl ?_
          refine RT_step (pc2 := 26) rfl (fun _ _ => rfl) ?_
          refine RT_step (pc2 := 27) rfl (fun _ _ => rfl) ?_
          refine ow_gf rfl rfl rfl hlen rfl ?_
          refine rt_ord rfl (by decide) rfl ?_
          refine rt_isw rfl (v := 15) (by decide +kernel) ?_
          refine RT_step (pc2 := 84) rfl (fun _ _ => rfl) ?_
          refine RT_step (pc2 := 85) rfl (fun _ _ => rfl) ?_
          refine rt_ico rfl ki_0 ?_
          refine RT_step (pc2 := 87) rfl (fun _ _ => rfl) ?_
          refine RT_step (pc2 := 89) rfl (fun _ _ => rfl) ?_
          refine rt_ico rfl ki_2 ?_
          refine ow_iv0 (l2 := ((1, tcl n lim a2 kd2 pl2 19 le2 nu2 tk (Int32.ofNat 0) fp2) :: (2, bcl bs) :: [(13, dcl13 P Dn lw cl id gl bo), (14, lng pn), (15, ia ri), (16, ia lf), (17, ia wa), (18, ia fo), (19, lng dn), (20, ia ha), (21, ia pa), (22, ia bl), (105, bkc (o + 1) bv), (106, ia v1), (107, ia v2), (108, ia v3), (109, ia v4)])) rfl rfl rfl rfl hlen rfl rfl rfl ((hadd bv _ (ov_hl hlen) (ov_at rfl (ov_lt hlen (by decide))) (ov_at rfl (ov_lt hlen (by decide))) (ov_at rfl (ov_lt hlen (by decide))) (ov_at rfl (ov_lt hlen (by decide))) (ov_at rfl (ov_lt hlen (by decide)))).up (by decide)) rfl ?_
          refine RT_step (pc2 := 102) rfl (fun _ _ => rfl) ?_
          refine RT_step (pc2 := 103) rfl (fun _ _ => rfl) ?_
          refine ow_iv0 (l2 := ((1, tcl n lim a3 kd3 pl3 w3 le3 nu3 tk (Int32.ofNat 0) fp3) :: (2, bcl bs) :: [(13, dcl13 P Dn lw cl id gl bo), (14, lng pn), (15, ia ri), (16, ia lf), (17, ia wa), (18, ia fo), (19, lng dn), (20, ia ha), (21, ia pa), (22, ia bl), (105, bkc (o + 1) bv), (106, ia v1), (107, ia v2), (108, ia v3), (109, ia v4)])) rfl rfl rfl rfl hlen rfl rfl rfl ((x3 _ (ov_hl hlen) (ov_at rfl (ov_lt hlen (by decide))) (ov_at rfl (ov_lt hlen (by decide)))).up (by decide)) rfl ?_
          refine rt_ico rfl ki_1 ?_
          exact ow_irt rfl rfl rfl
        · have hm2 : FR 6 257 [.ref 180, .int (Int32.ofNat 7), .int (Int32.ofNat Dn)] (ov H ((180, mcl (Int32.ofNat 0) (Int32.ofNat 0) n lim a1 pl1 (km kd1) nm1 sg1 (Int32.ofNat 0) qm1 wd1 td (posb vs o)) :: (181, mtl ts) :: [(182, ia nw), (187, lng nz), (200, ia (li.set (4 * o) (Int32.ofNat 0)))])) (some (.int (Int32.ofNat 1)), ov (ov H ((180, mcl (Int32.ofNat 0) (Int32.ofNat 0) n lim a1 pl1 (km kd1) nm1 sg1 (Int32.ofNat 0) qm1 wd1 td (posb vs o)) :: (181, mtl ts) :: [(182, ia nw), (187, lng nz), (200, ia (li.set (4 * o) (Int32.ofNat 0)))])) [(180, mcl (Int32.ofNat 0) (Int32.ofNat 0) n lim a2 pl2 (km kd2) nm2 sg2 (Int32.ofNat 0) qm2 wd2 (Int32.ofNat j1) (posb vs o))]) := by
            refine FR_st2 (l2 := ((180, mcl (Int32.ofNat 0) (Int32.ofNat 0) n lim a2 pl2 (km kd2) nm2 sg2 (Int32.ofNat 0) qm2 wd2 (Int32.ofNat j1) (posb vs o)) :: (181, mtl ts) :: [(182, ia nw), (187, lng nz), (200, ia (li.set (4 * o) (Int32.ofNat 0)))])) rfl rfl rfl ?_
            refine RT_step (pc2 := 1) rfl (fun _ _ => rfl) ?_
            refine ow_iv1 rfl rfl rfl rfl hlen rfl rfl rfl ((m_isName (ov_hl hlen) (ov_at rfl (ov_lt hlen (by decide))) (km_is kd1 t1.2.2.2.1).2.2.2.2.2).up (by omega)) rfl ?_
            refine bcF_ne rfl (b01_t hnm1) ?_
            refine RT_step (pc2 := 14) rfl (fun _ _ => rfl) ?_
            refine RT_step (pc2 := 15) rfl (fun _ _ => rfl) ?_
            refine ow_gf rfl rfl rfl hlen rfl ?_
            refine RT_step (pc2 := 19) rfl (fun _ _ => rfl) ?_
            refine RT_step (pc2 := 20) rfl (fun _ _ => rfl) ?_
            refine RT_step (pc2 := 21) rfl (fun _ _ => rfl) ?_
            refine ow_gf rfl rfl rfl hlen rfl ?_
            refine ow_is1 rfl rfl rfl rfl rfl ((m_find7 (bs0 := 7) (cnt := Dn) (ov_hl hlen) (ov_at rfl (ov_lt hlen (by decide))) (by omega) (by omega)).up (by omega)) rfl ?_
            rw [show fdI (fd nz wd1 7 Dn 0) = Int32.ofNat j1 from by rw [g1]; rfl]
            refine ow_pf (l2 := ((180, mcl (Int32.ofNat 0) (Int32.ofNat 0) n lim a1 pl1 (km kd1) nm1 sg1 (Int32.ofNat 0) qm1 wd1 (Int32.ofNat j1) (posb vs o)) :: (181, mtl ts) :: [(182, ia nw), (187, lng nz), (200, ia (li.set (4 * o) (Int32.ofNat 0)))])) rfl rfl rfl rfl rfl hlen rfl rfl ?_
            refine RT_step (pc2 := 31) rfl (fun _ _ => rfl) ?_
            refine ow_gf rfl rfl rfl hlen rfl ?_
            refine rt_ico rfl ki_m1 ?_
            refine biF_ne rfl (n_m1 (by omega)) ?_
            refine RT_step (pc2 := 45) rfl (fun _ _ => rfl) ?_
            refine ow_iv0 (l2 := ((180, mcl (Int32.ofNat 0) (Int32.ofNat 0) n lim a2 pl2 (km kd2) nm2 sg2 (Int32.ofNat 0) qm2 wd2 (Int32.ofNat j1) (posb vs o)) :: (181, mtl ts) :: [(182, ia nw), (187, lng nz), (200, ia (li.set (4 * o) (Int32.ofNat 0)))])) rfl rfl rfl rfl hlen rfl rfl rfl ((m2 _ (ov_hl hlen) (ov_at rfl (ov_lt hlen (by decide))) (ov_at rfl (ov_lt hlen (by decide)))).up (by omega)) rfl ?_
            refine rt_ico rfl ki_1 ?_
            exact ow_irt rfl rfl rfl
          have hm3 : FR 6 255 [.ref 180] (ov H ((180, mcl (Int32.ofNat 0) (Int32.ofNat 0) n lim a2 pl2 (km kd2) nm2 sg2 (Int32.ofNat 0) qm2 wd2 (Int32.ofNat j1) (posb vs o)) :: (181, mtl ts) :: [(182, ia nw), (187, lng nz), (200, ia ((li.set (4 * o) (Int32.ofNat 0)).set (4 * o + 2) (Int32.ofNat j1)))])) (some (.int (Int32.ofNat 1)), ov (ov H ((180, mcl (Int32.ofNat 0) (Int32.ofNat 0) n lim a2 pl2 (km kd2) nm2 sg2 (Int32.ofNat 0) qm2 wd2 (Int32.ofNat j1) (posb vs o)) :: (181, mtl ts) :: [(182, ia nw), (187, lng nz), (200, ia ((li.set (4 * o) (Int32.ofNat 0)).set (4 * o + 2) (Int32.ofNat j1)))])) [(180, mcl (Int32.ofNat 0) (Int32.ofNat 0) n lim a3 pl3 (km kd3) nm3 sg3 (Int32.ofNat 0) qm3 wd3 (Int32.ofNat 2) (posb vs o))]) := by
            refine FR_st2 (l2 := ((180, mcl (Int32.ofNat 0) (Int32.ofNat 0) n lim a3 pl3 (km kd3) nm3 sg3 (Int32.ofNat 0) qm3 wd3 (Int32.ofNat 2) (posb vs o)) :: (181, mtl ts) :: [(182, ia nw), (187, lng nz), (200, ia ((li.set (4 * o) (Int32.ofNat 0)).set (4 * o + 2) (Int32.ofNat j1)))])) rfl rfl rfl ?_
            refine rt_bip rfl k8_13 ?_
            refine RT_step (pc2 := 3) rfl (fun _ _ => rfl) ?_
            refine m_hl hlen (km_is kd2 t2.2.2.2.1).2.2.2.2.2 3 13 _ rfl rfl rfl (fun L2 l0 lw => ?_)
            rw [wj_le t2 3 13 (by decide), jh] at lw
            refine rt_ild rfl lw ?_
            refine rt_bip rfl k8_15 ?_
            refine biT_le rfl (n_le (by decide) (by decide)) ?_
            refine rt_ald rfl l0 ?_
            refine rt_ild rfl lw ?_
            refine rt_bip rfl k8_13 ?_
            refine ba_isub rfl ?_
            rw [show Int32.ofNat 15 - Int32.ofNat 13 = Int32.ofNat 2 from rfl]
            refine ow_pf (l2 := ((180, mcl (Int32.ofNat 0) (Int32.ofNat 0) n lim a2 pl2 (km kd2) nm2 sg2 (Int32.ofNat 0) qm2 wd2 (Int32.ofNat 2) (posb vs o)) :: (181, mtl ts) :: [(182, ia nw), (187, lng nz), (200, ia ((li.set (4 * o) (Int32.ofNat 0)).set (4 * o + 2) (Int32.ofNat j1)))])) rfl rfl rfl rfl rfl hlen rfl rfl ?_
            refine rt_ald rfl l0 ?_
            refine ow_iv0 (l2 := ((180, mcl (Int32.ofNat 0) (Int32.ofNat 0) n lim a3 pl3 (km kd3) nm3 sg3 (Int32.ofNat 0) qm3 wd3 (Int32.ofNat 2) (posb vs o)) :: (181, mtl ts) :: [(182, ia nw), (187, lng nz), (200, ia ((li.set (4 * o) (Int32.ofNat 0)).set (4 * o + 2) (Int32.ofNat j1)))])) rfl rfl rfl rfl hlen rfl rfl rfl ((m3 _ (ov_hl hlen) (ov_at rfl (ov_lt hlen (by decide))) (ov_at rfl (ov_lt hlen (by decide)))).up (by omega)) rfl ?_
            refine rt_ico rfl ki_1 ?_
            exact ow_irt rfl rfl rfl
          refine FR_st2 (l2 := ((180, mcl (Int32.ofNat 0) (Int32.ofNat 0) n lim a3 pl3 (km kd3) nm3 sg3 (Int32.ofNat 0) qm3 wd3 (Int32.ofNat 2) (posb vs o)) :: (181, mtl ts) :: [(182, ia nw), (187, lng nz), (200, ia (((li.set (4 * o) (Int32.ofNat 0)).set (4 * o + 2) (Int32.ofNat j1)).set (4 * o + 3) (Int32.ofNat 2)))])) rfl rfl rfl ?_
          refine rt_bip rfl k8_8 ?_
          refine RT_step (pc2 := 3) rfl (fun _ _ => rfl) ?_
          refine m_vl (z := Int32.ofNat (4 * o)) hlen (km_is kd t.2.2.2.1).2.2.2.2.2 5 8 _ rfl rfl rfl rfl (fun L2 l0 l1 lw => ?_)
          rw [wj_le t 5 8 (by decide), jv] at lw
          refine rt_ild rfl lw ?_
          refine rt_bip rfl k8_12 ?_
          refine biT_le rfl (n_le (by decide) (by decide)) ?_
          refine rt_ald rfl l0 ?_
          refine ow_gf rfl rfl rfl hlen rfl ?_
          refine rt_ild rfl l1 ?_
          refine rt_ild rfl lw ?_
          refine rt_bip rfl k8_8 ?_
          refine ba_isub rfl ?_
          rw [show Int32.ofNat 8 - Int32.ofNat 8 = Int32.ofNat 0 from rfl]
          refine ow_iasN (l2 := ((180, mcl (Int32.ofNat 0) (Int32.ofNat 0) n lim a pl (km kd) nm sg (Int32.ofNat 0) qm wd td (posb vs o)) :: (181, mtl ts) :: [(182, ia nw), (187, lng nz), (200, ia (li.set (4 * o) (Int32.ofNat 0)))])) rfl rfl (by omega) (by omega) hlen rfl rfl ?_
          refine rt_ald rfl l0 ?_
          refine ow_iv0 (l2 := ((180, mcl (Int32.ofNat 0) (Int32.ofNat 0) n lim a1 pl1 (km kd1) nm1 sg1 (Int32.ofNat 0) qm1 wd1 td (posb vs o)) :: (181, mtl ts) :: [(182, ia nw), (187, lng nz), (200, ia (li.set (4 * o) (Int32.ofNat 0)))])) rfl rfl rfl rfl hlen rfl rfl rfl ((m1 _ (ov_hl hlen) (ov_at rfl (ov_lt hlen (by decide))) (ov_at rfl (ov_lt hlen (by decide)))).up (by omega)) rfl ?_
          refine rt_ald rfl l0 ?_
          refine ow_gf rfl rfl rfl hlen rfl ?_
          refine rt_ild rfl l1 ?_
          refine ow_ialN rfl rfl (List.getElem?_set_self (by omega)) (by omega) hlen rfl ?_
          refine RT_step (pc2 := 80) rfl (fun _ _ => rfl) ?_
          refine rt_ald rfl l0 ?_
          refine rt_ild rfl l1 ?_
          refine rt_ico rfl ki_2 ?_
          refine ba_iadd rfl ?_
          rw [n_add]
          refine rt_ald rfl l0 ?_
          refine rt_bip rfl k8_7 ?_
          refine rt_ald rfl l0 ?_
          refine ow_gf rfl rfl rfl hlen rfl ?_
          refine rt_ico rfl ki_1 ?_
          refine ow_ialN rfl rfl hv1 (by omega) hlen rfl ?_
          refine ow_iv1 (l2 := ((180, mcl (Int32.ofNat 0) (Int32.ofNat 0) n lim a2 pl2 (km kd2) nm2 sg2 (Int32.ofNat 0) qm2 wd2 (Int32.ofNat j1) (posb vs o)) :: (181, mtl ts) :: [(182, ia nw), (187, lng nz), (200, ia (li.set (4 * o) (Int32.ofNat 0)))])) rfl rfl rfl rfl hlen rfl rfl rfl (hm2.up (by omega)) rfl ?_
          refine ow_iv1 (l2 := ((180, mcl (Int32.ofNat 0) (Int32.ofNat 0) n lim a2 pl2 (km kd2) nm2 sg2 (Int32.ofNat 0) qm2 wd2 (Int32.ofNat j1) (posb vs o)) :: (181, mtl ts) :: [(182, ia nw), (187, lng nz), (200, ia ((li.set (4 * o) (Int32.ofNat 0)).set (4 * o + 2) (Int32.ofNat j1)))])) rfl rfl rfl rfl hlen rfl rfl rfl ((m_kp1 (ov_hl hlen) (ov_at rfl (ov_lt hlen (by decide))) (ov_at rfl (ov_lt hlen (by decide))) (by (try simp only [List.length_set]); omega) (by omega)).up (by omega)) rfl ?_
          refine bcF_eq rfl (by decide) ?_
          refine rt_ald rfl l0 ?_
          refine rt_ild rfl l1 ?_
          refine rt_ico rfl ki_3 ?_
          refine ba_iadd rfl ?_
          rw [n_add]
          refine rt_ald rfl l0 ?_
          refine ow_iv1 (l2 := ((180, mcl (Int32.ofNat 0) (Int32.ofNat 0) n lim a3 pl3 (km kd3) nm3 sg3 (Int32.ofNat 0) qm3 wd3 (Int32.ofNat 2) (posb vs o)) :: (181, mtl ts) :: [(182, ia nw), (187, lng nz), (200, ia ((li.set (4 * o) (Int32.ofNat 0)).set (4 * o + 2) (Int32.ofNat j1)))])) rfl rfl rfl rfl hlen rfl rfl rfl (hm3.up (by omega)) rfl ?_
          refine ow_iv1 (l2 := ((180, mcl (Int32.ofNat 0) (Int32.ofNat 0) n lim a3 pl3 (km kd3) nm3 sg3 (Int32.ofNat 0) qm3 wd3 (Int32.ofNat 2) (posb vs o)) :: (181, mtl ts) :: [(182, ia nw), (187, lng nz), (200, ia (((li.set (4 * o) (Int32.ofNat 0)).set (4 * o + 2) (Int32.ofNat j1)).set (4 * o + 3) (Int32.ofNat 2)))])) rfl rfl rfl rfl hlen rfl rfl rfl ((m_kp1 (ov_hl hlen) (ov_at rfl (ov_lt hlen (by decide))) (ov_at rfl (ov_lt hlen (by decide))) (by (try simp only [List.length_set]); omega) (by omega)).up (by omega)) rfl ?_
          refine bcF_eq rfl (by decide) ?_
          refine rt_ico rfl ki_1 ?_
          refine RT_step (pc2 := 121) rfl (fun _ _ => rfl) ?_
          exact ow_irt rfl rfl rfl
    | none =>
      have g1 := q1.symm.trans e1
      obtain ⟨T, M, f, hx, hm⟩ := s_ref (bs := bs) (ts := ts) (lim := lim) (po := (posb vs o)) (pl := pl1) (tk := tk) (td := (-1 : Int32)) (fp := fp1) (plM := qm1) t1 (kk := 3) (by decide) (by decide) (Or.inl (by omega))
      obtain ⟨a9, kd9, pl9, w9, le9, nu9, tk9, kk9, am9, fm9, kM9, nm9, sg9, fa9, qm9, wd9, td9, rfl, rfl, f9⟩ := f
      refine Or.inl ⟨tcl n lim a9 kd9 pl9 w9 le9 nu9 tk9 (Int32.ofNat kk9) (Int32.ofNat pl9), mcl (Int32.ofNat 0) (Int32.ofNat 0) n lim am9 fm9 kM9 nm9 sg9 fa9 qm9 wd9 td9 (posb vs o), (li.set (4 * o) (Int32.ofNat 0)), ⟨a9, kd9, pl9, w9, le9, nu9, tk9, kk9, am9, fm9, kM9, nm9, sg9, fa9, qm9, wd9, td9, rfl, rfl, f9⟩, by simp only [List.length_set]; exact ln, fun H hlen => ?_, fun H hlen => ?_⟩
      · have hz : FR 2 71 [.ref 1, .ref 19, .int (Int32.ofNat Dn)] (ov H ((1, tcl n lim a1 kd1 pl1 w1 le1 nu1 tk (Int32.ofNat 0) fp1) :: (2, bcl bs) :: [(13, dcl13 P Dn lw cl id gl bo), (14, lng pn), (15, ia ri), (16, ia lf), (17, ia wa), (18, ia fo), (19, lng dn), (20, ia ha), (21, ia pa), (22, ia bl), (105, bkc o bv), (106, ia u1), (107, ia u2), (108, ia u3), (109, ia u4)])) (some (.int (-1 : Int32)), ov (ov H ((1, tcl n lim a1 kd1 pl1 w1 le1 nu1 tk (Int32.ofNat 0) fp1) :: (2, bcl bs) :: [(13, dcl13 P Dn lw cl id gl bo), (14, lng pn), (15, ia ri), (16, ia lf), (17, ia wa), (18, ia fo), (19, lng dn), (20, ia ha), (21, ia pa), (22, ia bl), (105, bkc o bv), (106, ia u1), (107, ia u2), (108, ia u3), (109, ia u4)])) [(1, tcl n lim a9 kd9 pl9 w9 le9 nu9 tk9 (Int32.ofNat kk9) (Int32.ofNat pl9))]) := by
          refine FR_st2 (l2 := ((1, tcl n lim a9 kd9 pl9 w9 le9 nu9 tk9 (Int32.ofNat kk9) (Int32.ofNat pl9)) :: (2, bcl bs) :: [(13, dcl13 P Dn lw cl id gl bo), (14, lng pn), (15, ia ri), (16, ia lf), (17, ia wa), (18, ia fo), (19, lng dn), (20, ia ha), (21, ia pa), (22, ia bl), (105, bkc o bv), (106, ia u1), (107, ia u2), (108, ia u3), (109, ia u4)])) rfl rfl rfl ?_
          refine RT_step (pc2 := 1) rfl (fun _ _ => rfl) ?_
          refine ow_gf rfl rfl rfl hlen rfl ?_
          refine RT_step (pc2 := 7) rfl (fun _ _ => rfl) ?_
          refine rt_acE rfl (by omega) (by omega) ?_
          refine RT_if c1 ?_
          refine RT_step (pc2 := 19) rfl (fun _ _ => rfl) ?_
          refine RT_step (pc2 := 20) rfl (fun _ _ => rfl) ?_
          refine RT_step (pc2 := 21) rfl (fun _ _ => rfl) ?_
          refine ow_gf rfl rfl rfl hlen rfl ?_
          refine ow_is1 rfl rfl rfl rfl rfl ((x_find19 (ov_hl hlen) (ov_at rfl (ov_lt hlen (by decide))) (by omega) (by omega)).up (by decide)) rfl ?_
          rw [show fdI (fd dn le1 0 Dn 0) = (-1 : Int32) from by rw [e1]; rfl]
          refine RT_step (pc2 := 28) rfl (fun _ _ => rfl) ?_
          refine RT_step (pc2 := 29) rfl (fun _ _ => rfl) ?_
          refine rt_ico rfl ki_m1 ?_
          refine biT_ne rfl rfl ?_
          refine RT_step (pc2 := 34) rfl (fun _ _ => rfl) ?_
          refine rt_ico rfl ki_3 ?_
          refine ow_iv1 rfl rfl rfl rfl hlen rfl rfl rfl ((hx _ (ov_hl hlen) (ov_at rfl (ov_lt hlen (by decide))) (ov_at rfl (ov_lt hlen (by decide)))).up (by decide)) rfl ?_
          refine RT_step (pc2 := 39) rfl (fun _ _ => rfl) ?_
          refine RT_step (pc2 := 40) rfl (fun _ _ => rfl) ?_
          exact ow_irt rfl rfl rfl
        have hy : FR 3 63 [.ref 13, .ref 1] (ov H ((1, tcl n lim a1 kd1 pl1 w1 le1 nu1 tk (Int32.ofNat 0) fp1) :: (2, bcl bs) :: [(13, dcl13 P Dn lw cl id gl bo), (14, lng pn), (15, ia ri), (16, ia lf), (17, ia wa), (18, ia fo), (19, lng dn), (20, ia ha), (21, ia pa), (22, ia bl), (105, bkc o bv), (106, ia u1), (107, ia u2), (108, ia u3), (109, ia u4)])) (some (.int (-1 : Int32)), ov (ov H ((1, tcl n lim a1 kd1 pl1 w1 le1 nu1 tk (Int32.ofNat 0) fp1) :: (2, bcl bs) :: [(13, dcl13 P Dn lw cl id gl bo), (14, lng pn), (15, ia ri), (16, ia lf), (17, ia wa), (18, ia fo), (19, lng dn), (20, ia ha), (21, ia pa), (22, ia bl), (105, bkc o bv), (106, ia u1), (107, ia u2), (108, ia u3), (109, ia u4)])) [(1, tcl n lim a9 kd9 pl9 w9 le9 nu9 tk9 (Int32.ofNat kk9) (Int32.ofNat pl9))]) := by
          refine FR_st2 (l2 := ((1, tcl n lim a9 kd9 pl9 w9 le9 nu9 tk9 (Int32.ofNat kk9) (Int32.ofNat pl9)) :: (2, bcl bs) :: [(13, dcl13 P Dn lw cl id gl bo), (14, lng pn), (15, ia ri), (16, ia lf), (17, ia wa), (18, ia fo), (19, lng dn), (20, ia ha), (21, ia pa), (22, ia bl), (105, bkc o bv), (106, ia u1), (107, ia u2), (108, ia u3), (109, ia u4)])) rfl rfl rfl ?_
          refine RT_step (pc2 := 1) rfl (fun _ _ => rfl) ?_
          refine RT_step (pc2 := 2) rfl (fun _ _ => rfl) ?_
          refine ow_gf rfl rfl rfl hlen rfl ?_
          refine RT_step (pc2 := 6) rfl (fun _ _ => rfl) ?_
          refine ow_gf rfl rfl rfl hlen rfl ?_
          refine ow_is1 (l2 := ((1, tcl n lim a9 kd9 pl9 w9 le9 nu9 tk9 (Int32.ofNat kk9) (Int32.ofNat pl9)) :: (2, bcl bs) :: [(13, dcl13 P Dn lw cl id gl bo), (14, lng pn), (15, ia ri), (16, ia lf), (17, ia wa), (18, ia fo), (19, lng dn), (20, ia ha), (21, ia pa), (22, ia bl), (105, bkc o bv), (106, ia u1), (107, ia u2), (108, ia u3), (109, ia u4)])) rfl rfl rfl rfl rfl (hz.up (by decide)) rfl ?_
          exact ow_irt rfl rfl rfl
        refine FR_st2 (l2 := ((1, tcl n lim a9 kd9 pl9 w9 le9 nu9 tk9 (Int32.ofNat kk9) (Int32.ofNat pl9)) :: (2, bcl bs) :: [(13, dcl13 P Dn lw cl id gl bo), (14, lng pn), (15, ia ri), (16, ia lf), (17, ia wa), (18, ia fo), (19, lng dn), (20, ia ha), (21, ia pa), (22, ia bl), (105, bkc o bv), (106, ia u1), (107, ia u2), (108, ia u3), (109, ia u4)])) rfl rfl rfl ?_
        refine RT_step (pc2 := 1) rfl (fun _ _ => rfl) ?_
        refine ow_iv0 (l2 := ((1, tcl n lim a1 kd1 pl1 w1 le1 nu1 tk (Int32.ofNat 0) fp1) :: (2, bcl bs) :: [(13, dcl13 P Dn lw cl id gl bo), (14, lng pn), (15, ia ri), (16, ia lf), (17, ia wa), (18, ia fo), (19, lng dn), (20, ia ha), (21, ia pa), (22, ia bl), (105, bkc o bv), (106, ia u1), (107, ia u2), (108, ia u3), (109, ia u4)])) rfl rfl rfl rfl hlen rfl rfl rfl ((x1 _ (ov_hl hlen) (ov_at rfl (ov_lt hlen (by decide))) (ov_at rfl (ov_lt hlen (by decide)))).up (by decide)) rfl ?_
        refine RT_step (pc2 := 5) rfl (fun _ _ => rfl) ?_
        refine RT_step (pc2 := 6) rfl (fun _ _ => rfl) ?_
        refine ow_iv1 (l2 := ((1, tcl n lim a9 kd9 pl9 w9 le9 nu9 tk9 (Int32.ofNat kk9) (Int32.ofNat pl9)) :: (2, bcl bs) :: [(13, dcl13 P Dn lw cl id gl bo), (14, lng pn), (15, ia ri), (16, ia lf), (17, ia wa), (18, ia fo), (19, lng dn), (20, ia ha), (21, ia pa), (22, ia bl), (105, bkc o bv), (106, ia u1), (107, ia u2), (108, ia u3), (109, ia u4)])) rfl rfl rfl rfl hlen rfl rfl rfl (hy.up (by decide)) rfl ?_
        refine RT_step (pc2 := 11) rfl (fun _ _ => rfl) ?_
        refine RT_step (pc2 := 13) rfl (fun _ _ => rfl) ?_
        refine rt_ico rfl ki_m1 ?_
        refine biT_ne rfl rfl ?_
        refine rt_ico rfl ki_0 ?_
        exact ow_irt rfl rfl rfl
      · have hm2 : FR 6 257 [.ref 180, .int (Int32.ofNat 7), .int (Int32.ofNat Dn)] (ov H ((180, mcl (Int32.ofNat 0) (Int32.ofNat 0) n lim a1 pl1 (km kd1) nm1 sg1 (Int32.ofNat 0) qm1 wd1 td (posb vs o)) :: (181, mtl ts) :: [(182, ia nw), (187, lng nz), (200, ia (li.set (4 * o) (Int32.ofNat 0)))])) (some (.int (Int32.ofNat 0)), ov (ov H ((180, mcl (Int32.ofNat 0) (Int32.ofNat 0) n lim a1 pl1 (km kd1) nm1 sg1 (Int32.ofNat 0) qm1 wd1 td (posb vs o)) :: (181, mtl ts) :: [(182, ia nw), (187, lng nz), (200, ia (li.set (4 * o) (Int32.ofNat 0)))])) [(180, mcl (Int32.ofNat 0) (Int32.ofNat 0) n lim am9 fm9 kM9 nm9 sg9 fa9 qm9 wd9 td9 (posb vs o))]) := by
          refine FR_st2 (l2 := ((180, mcl (Int32.ofNat 0) (Int32.ofNat 0) n lim am9 fm9 kM9 nm9 sg9 fa9 qm9 wd9 td9 (posb vs o)) :: (181, mtl ts) :: [(182, ia nw), (187, lng nz), (200, ia (li.set (4 * o) (Int32.ofNat 0)))])) rfl rfl rfl ?_
          refine RT_step (pc2 := 1) rfl (fun _ _ => rfl) ?_
          refine ow_iv1 rfl rfl rfl rfl hlen rfl rfl rfl ((m_isName (ov_hl hlen) (ov_at rfl (ov_lt hlen (by decide))) (km_is kd1 t1.2.2.2.1).2.2.2.2.2).up (by omega)) rfl ?_
          refine bcF_ne rfl (b01_t hnm1) ?_
          refine RT_step (pc2 := 14) rfl (fun _ _ => rfl) ?_
          refine RT_step (pc2 := 15) rfl (fun _ _ => rfl) ?_
          refine ow_gf rfl rfl rfl hlen rfl ?_
          refine RT_step (pc2 := 19) rfl (fun _ _ => rfl) ?_
          refine RT_step (pc2 := 20) rfl (fun _ _ => rfl) ?_
          refine RT_step (pc2 := 21) rfl (fun _ _ => rfl) ?_
          refine ow_gf rfl rfl rfl hlen rfl ?_
          refine ow_is1 rfl rfl rfl rfl rfl ((m_find7 (bs0 := 7) (cnt := Dn) (ov_hl hlen) (ov_at rfl (ov_lt hlen (by decide))) (by omega) (by omega)).up (by omega)) rfl ?_
          rw [show fdI (fd nz wd1 7 Dn 0) = (-1 : Int32) from by rw [g1]; rfl]
          refine ow_pf (l2 := ((180, mcl (Int32.ofNat 0) (Int32.ofNat 0) n lim a1 pl1 (km kd1) nm1 sg1 (Int32.ofNat 0) qm1 wd1 (-1 : Int32) (posb vs o)) :: (181, mtl ts) :: [(182, ia nw), (187, lng nz), (200, ia (li.set (4 * o) (Int32.ofNat 0)))])) rfl rfl rfl rfl rfl hlen rfl rfl ?_
          refine RT_step (pc2 := 31) rfl (fun _ _ => rfl) ?_
          refine ow_gf rfl rfl rfl hlen rfl ?_
          refine rt_ico rfl ki_m1 ?_
          refine biT_ne rfl rfl ?_
          refine RT_step (pc2 := 39) rfl (fun _ _ => rfl) ?_
          refine rt_ico rfl ki_3 ?_
          refine ow_iv1 (l2 := ((180, mcl (Int32.ofNat 0) (Int32.ofNat 0) n lim am9 fm9 kM9 nm9 sg9 fa9 qm9 wd9 td9 (posb vs o)) :: (181, mtl ts) :: [(182, ia nw), (187, lng nz), (200, ia (li.set (4 * o) (Int32.ofNat 0)))])) rfl rfl rfl rfl hlen rfl rfl rfl ((hm _ (ov_hl hlen) (ov_at rfl (ov_lt hlen (by decide))) (ov_at rfl (ov_lt hlen (by decide)))).up (by omega)) rfl ?_
          exact ow_irt rfl rfl rfl
        refine FR_st2 (l2 := ((180, mcl (Int32.ofNat 0) (Int32.ofNat 0) n lim am9 fm9 kM9 nm9 sg9 fa9 qm9 wd9 td9 (posb vs o)) :: (181, mtl ts) :: [(182, ia nw), (187, lng nz), (200, ia (li.set (4 * o) (Int32.ofNat 0)))])) rfl rfl rfl ?_
        refine rt_bip rfl k8_8 ?_
        refine RT_step (pc2 := 3) rfl (fun _ _ => rfl) ?_
        refine m_vl (z := Int32.ofNat (4 * o)) hlen (km_is kd t.2.2.2.1).2.2.2.2.2 5 8 _ rfl rfl rfl rfl (fun L2 l0 l1 lw => ?_)
        rw [wj_le t 5 8 (by decide), jv] at lw
        refine rt_ild rfl lw ?_
        refine rt_bip rfl k8_12 ?_
        refine biT_le rfl (n_le (by decide) (by decide)) ?_
        refine rt_ald rfl l0 ?_
        refine ow_gf rfl rfl rfl hlen rfl ?_
        refine rt_ild rfl l1 ?_
        refine rt_ild rfl lw ?_
        refine rt_bip rfl k8_8 ?_
        refine ba_isub rfl ?_
        rw [show Int32.ofNat 8 - Int32.ofNat 8 = Int32.ofNat 0 from rfl]
        refine ow_iasN (l2 := ((180, mcl (Int32.ofNat 0) (Int32.ofNat 0) n lim a pl (km kd) nm sg (Int32.ofNat 0) qm wd td (posb vs o)) :: (181, mtl ts) :: [(182, ia nw), (187, lng nz), (200, ia (li.set (4 * o) (Int32.ofNat 0)))])) rfl rfl (by omega) (by omega) hlen rfl rfl ?_
        refine rt_ald rfl l0 ?_
        refine ow_iv0 (l2 := ((180, mcl (Int32.ofNat 0) (Int32.ofNat 0) n lim a1 pl1 (km kd1) nm1 sg1 (Int32.ofNat 0) qm1 wd1 td (posb vs o)) :: (181, mtl ts) :: [(182, ia nw), (187, lng nz), (200, ia (li.set (4 * o) (Int32.ofNat 0)))])) rfl rfl rfl rfl hlen rfl rfl rfl ((m1 _ (ov_hl hlen) (ov_at rfl (ov_lt hlen (by decide))) (ov_at rfl (ov_lt hlen (by decide)))).up (by omega)) rfl ?_
        refine rt_ald rfl l0 ?_
        refine ow_gf rfl rfl rfl hlen rfl ?_
        refine rt_ild rfl l1 ?_
        refine ow_ialN rfl rfl (List.getElem?_set_self (by omega)) (by omega) hlen rfl ?_
        refine RT_step (pc2 := 80) rfl (fun _ _ => rfl) ?_
        refine rt_ald rfl l0 ?_
        refine rt_ild rfl l1 ?_
        refine rt_ico rfl ki_2 ?_
        refine ba_iadd rfl ?_
        rw [n_add]
        refine rt_ald rfl l0 ?_
        refine rt_bip rfl k8_7 ?_
        refine rt_ald rfl l0 ?_
        refine ow_gf rfl rfl rfl hlen rfl ?_
        refine rt_ico rfl ki_1 ?_
        refine ow_ialN rfl rfl hv1 (by omega) hlen rfl ?_
        refine ow_iv1 (l2 := ((180, mcl (Int32.ofNat 0) (Int32.ofNat 0) n lim am9 fm9 kM9 nm9 sg9 fa9 qm9 wd9 td9 (posb vs o)) :: (181, mtl ts) :: [(182, ia nw), (187, lng nz), (200, ia (li.set (4 * o) (Int32.ofNat 0)))])) rfl rfl rfl rfl hlen rfl rfl rfl (hm2.up (by omega)) rfl ?_
        refine ow_iv1 (l2 := ((180, mcl (Int32.ofNat 0) (Int32.ofNat 0) n lim am9 fm9 kM9 nm9 sg9 fa9 qm9 wd9 td9 (posb vs o)) :: (181, mtl ts) :: [(182, ia nw), (187, lng nz), (200, ia (li.set (4 * o) (Int32.ofNat 0)))])) rfl rfl rfl rfl hlen rfl rfl rfl (m_kp0.up (by omega)) rfl ?_
        refine bcT_eq rfl rfl ?_
        refine rt_ico rfl ki_0 ?_
        exact ow_irt rfl rfl rfl
  · have hnm1 : (Nat.beq (km kd1) 2 && nmB wd1 30 0) = false := by rw [w_nm t1]; exact decide_eq_false c1
    obtain ⟨T, M, f, hx, hm⟩ := s_ref (bs := bs) (ts := ts) (lim := lim) (po := (posb vs o)) (pl := pl1) (tk := tk) (td := td) (fp := fp1) (plM := qm1) t1 (kk := 1) (by decide) (by decide) (Or.inr rfl)
    obtain ⟨a9, kd9, pl9, w9, le9, nu9, tk9, kk9, am9, fm9, kM9, nm9, sg9, fa9, qm9, wd9, td9, rfl, rfl, f9⟩ := f
    refine Or.inl ⟨tcl n lim a9 kd9 pl9 w9 le9 nu9 tk9 (Int32.ofNat kk9) (Int32.ofNat pl9), mcl (Int32.ofNat 0) (Int32.ofNat 0) n lim am9 fm9 kM9 nm9 sg9 fa9 qm9 wd9 td9 (posb vs o), (li.set (4 * o) (Int32.ofNat 0)), ⟨a9, kd9, pl9, w9, le9, nu9, tk9, kk9, am9, fm9, kM9, nm9, sg9, fa9, qm9, wd9, td9, rfl, rfl, f9⟩, by simp only [List.length_set]; exact ln, fun H hlen => ?_, fun H hlen => ?_⟩
    · have hz : FR 2 71 [.ref 1, .ref 19, .int (Int32.ofNat Dn)] (ov H ((1, tcl n lim a1 kd1 pl1 w1 le1 nu1 tk (Int32.ofNat 0) fp1) :: (2, bcl bs) :: [(13, dcl13 P Dn lw cl id gl bo), (14, lng pn), (15, ia ri), (16, ia lf), (17, ia wa), (18, ia fo), (19, lng dn), (20, ia ha), (21, ia pa), (22, ia bl), (105, bkc o bv), (106, ia u1), (107, ia u2), (108, ia u3), (109, ia u4)])) (some (.int (-1 : Int32)), ov (ov H ((1, tcl n lim a1 kd1 pl1 w1 le1 nu1 tk (Int32.ofNat 0) fp1) :: (2, bcl bs) :: [(13, dcl13 P Dn lw cl id gl bo), (14, lng pn), (15, ia ri), (16, ia lf), (17, ia wa), (18, ia fo), (19, lng dn), (20, ia ha), (21, ia pa), (22, ia bl), (105, bkc o bv), (106, ia u1), (107, ia u2), (108, ia u3), (109, ia u4)])) [(1, tcl n lim a9 kd9 pl9 w9 le9 nu9 tk9 (Int32.ofNat kk9) (Int32.ofNat pl9))]) := by
        refine FR_st2 (l2 := ((1, tcl n lim a9 kd9 pl9 w9 le9 nu9 tk9 (Int32.ofNat kk9) (Int32.ofNat pl9)) :: (2, bcl bs) :: [(13, dcl13 P Dn lw cl id gl bo), (14, lng pn), (15, ia ri), (16, ia lf), (17, ia wa), (18, ia fo), (19, lng dn), (20, ia ha), (21, ia pa), (22, ia bl), (105, bkc o bv), (106, ia u1), (107, ia u2), (108, ia u3), (109, ia u4)])) rfl rfl rfl ?_
        refine RT_step (pc2 := 1) rfl (fun _ _ => rfl) ?_
        refine ow_gf rfl rfl rfl hlen rfl ?_
        refine RT_step (pc2 := 7) rfl (fun _ _ => rfl) ?_
        refine rt_acE rfl (by omega) (by omega) ?_
        refine RT_el c1 ?_
        refine RT_step (pc2 := 11) rfl (fun _ _ => rfl) ?_
        refine rt_ico rfl ki_1 ?_
        refine ow_iv1 rfl rfl rfl rfl hlen rfl rfl rfl ((hx _ (ov_hl hlen) (ov_at rfl (ov_lt hlen (by decide))) (ov_at rfl (ov_lt hlen (by decide)))).up (by decide)) rfl ?_
        refine RT_step (pc2 := 16) rfl (fun _ _ => rfl) ?_
        refine rt_ico rfl ki_m1 ?_
        exact ow_irt rfl rfl rfl
      have hy : FR 3 63 [.ref 13, .ref 1] (ov H ((1, tcl n lim a1 kd1 pl1 w1 le1 nu1 tk (Int32.ofNat 0) fp1) :: (2, bcl bs) :: [(13, dcl13 P Dn lw cl id gl bo), (14, lng pn), (15, ia ri), (16, ia lf), (17, ia wa), (18, ia fo), (19, lng dn), (20, ia ha), (21, ia pa), (22, ia bl), (105, bkc o bv), (106, ia u1), (107, ia u2), (108, ia u3), (109, ia u4)])) (some (.int (-1 : Int32)), ov (ov H ((1, tcl n lim a1 kd1 pl1 w1 le1 nu1 tk (Int32.ofNat 0) fp1) :: (2, bcl bs) :: [(13, dcl13 P Dn lw cl id gl bo), (14, lng pn), (15, ia ri), (16, ia lf), (17, ia wa), (18, ia fo), (19, lng dn), (20, ia ha), (21, ia pa), (22, ia bl), (105, bkc o bv), (106, ia u1), (107, ia u2), (108, ia u3), (109, ia u4)])) [(1, tcl n lim a9 kd9 pl9 w9 le9 nu9 tk9 (Int32.ofNat kk9) (Int32.ofNat pl9))]) := by
        refine FR_st2 (l2 := ((1, tcl n lim a9 kd9 pl9 w9 le9 nu9 tk9 (Int32.ofNat kk9) (Int32.ofNat pl9)) :: (2, bcl bs) :: [(13, dcl13 P Dn lw cl id gl bo), (14, lng pn), (15, ia ri), (16, ia lf), (17, ia wa), (18, ia fo), (19, lng dn), (20, ia ha), (21, ia pa), (22, ia bl), (105, bkc o bv), (106, ia u1), (107, ia u2), (108, ia u3), (109, ia u4)])) rfl rfl rfl ?_
        refine RT_step (pc2 := 1) rfl (fun _ _ => rfl) ?_
        refine RT_step (pc2 := 2) rfl (fun _ _ => rfl) ?_
        refine ow_gf rfl rfl rfl hlen rfl ?_
        refine RT_step (pc2 := 6) rfl (fun _ _ => rfl) ?_
        refine ow_gf rfl rfl rfl hlen rfl ?_
        refine ow_is1 (l2 := ((1, tcl n lim a9 kd9 pl9 w9 le9 nu9 tk9 (Int32.ofNat kk9) (Int32.ofNat pl9)) :: (2, bcl bs) :: [(13, dcl13 P Dn lw cl id gl bo), (14, lng pn), (15, ia ri), (16, ia lf), (17, ia wa), (18, ia fo), (19, lng dn), (20, ia ha), (21, ia pa), (22, ia bl), (105, bkc o bv), (106, ia u1), (107, ia u2), (108, ia u3), (109, ia u4)])) rfl rfl rfl rfl rfl (hz.up (by decide)) rfl ?_
        exact ow_irt rfl rfl rfl
      refine FR_st2 (l2 := ((1, tcl n lim a9 kd9 pl9 w9 le9 nu9 tk9 (Int32.ofNat kk9) (Int32.ofNat pl9)) :: (2, bcl bs) :: [(13, dcl13 P Dn lw cl id gl bo), (14, lng pn), (15, ia ri), (16, ia lf), (17, ia wa), (18, ia fo), (19, lng dn), (20, ia ha), (21, ia pa), (22, ia bl), (105, bkc o bv), (106, ia u1), (107, ia u2), (108, ia u3), (109, ia u4)])) rfl rfl rfl ?_
      refine RT_step (pc2 := 1) rfl (fun _ _ => rfl) ?_
      refine ow_iv0 (l2 := ((1, tcl n lim a1 kd1 pl1 w1 le1 nu1 tk (Int32.ofNat 0) fp1) :: (2, bcl bs) :: [(13, dcl13 P Dn lw cl id gl bo), (14, lng pn), (15, ia ri), (16, ia lf), (17, ia wa), (18, ia fo), (19, lng dn), (20, ia ha), (21, ia pa), (22, ia bl), (105, bkc o bv), (106, ia u1), (107, ia u2), (108, ia u3), (109, ia u4)])) rfl rfl rfl rfl hlen rfl rfl rfl ((x1 _ (ov_hl hlen) (ov_at rfl (ov_lt hlen (by decide))) (ov_at rfl (ov_lt hlen (by decide)))).up (by decide)) rfl ?_
      refine RT_step (pc2 := 5) rfl (fun _ _ => rfl) ?_
      refine RT_step (pc2 := 6) rfl (fun _ _ => rfl) ?_
      refine ow_iv1 (l2 := ((1, tcl n lim a9 kd9 pl9 w9 le9 nu9 tk9 (Int32.ofNat kk9) (Int32.ofNat pl9)) :: (2, bcl bs) :: [(13, dcl13 P Dn lw cl id gl bo), (14, lng pn), (15, ia ri), (16, ia lf), (17, ia wa), (18, ia fo), (19, lng dn), (20, ia ha), (21, ia pa), (22, ia bl), (105, bkc o bv), (106, ia u1), (107, ia u2), (108, ia u3), (109, ia u4)])) rfl rfl rfl rfl hlen rfl rfl rfl (hy.up (by decide)) rfl ?_
      refine RT_step (pc2 := 11) rfl (fun _ _ => rfl) ?_
      refine RT_step (pc2 := 13) rfl (fun _ _ => rfl) ?_
      refine rt_ico rfl ki_m1 ?_
      refine biT_ne rfl rfl ?_
      refine rt_ico rfl ki_0 ?_
      exact ow_irt rfl rfl rfl
    · have hm2 : FR 6 257 [.ref 180, .int (Int32.ofNat 7), .int (Int32.ofNat Dn)] (ov H ((180, mcl (Int32.ofNat 0) (Int32.ofNat 0) n lim a1 pl1 (km kd1) nm1 sg1 (Int32.ofNat 0) qm1 wd1 td (posb vs o)) :: (181, mtl ts) :: [(182, ia nw), (187, lng nz), (200, ia (li.set (4 * o) (Int32.ofNat 0)))])) (some (.int (Int32.ofNat 0)), ov (ov H ((180, mcl (Int32.ofNat 0) (Int32.ofNat 0) n lim a1 pl1 (km kd1) nm1 sg1 (Int32.ofNat 0) qm1 wd1 td (posb vs o)) :: (181, mtl ts) :: [(182, ia nw), (187, lng nz), (200, ia (li.set (4 * o) (Int32.ofNat 0)))])) [(180, mcl (Int32.ofNat 0) (Int32.ofNat 0) n lim am9 fm9 kM9 nm9 sg9 fa9 qm9 wd9 td9 (posb vs o))]) := by
        refine FR_st2 (l2 := ((180, mcl (Int32.ofNat 0) (Int32.ofNat 0) n lim am9 fm9 kM9 nm9 sg9 fa9 qm9 wd9 td9 (posb vs o)) :: (181, mtl ts) :: [(182, ia nw), (187, lng nz), (200, ia (li.set (4 * o) (Int32.ofNat 0)))])) rfl rfl rfl ?_
        refine RT_step (pc2 := 1) rfl (fun _ _ => rfl) ?_
        refine ow_iv1 rfl rfl rfl rfl hlen rfl rfl rfl ((m_isName (ov_hl hlen) (ov_at rfl (ov_lt hlen (by decide))) (km_is kd1 t1.2.2.2.1).2.2.2.2.2).up (by omega)) rfl ?_
        refine bcT_ne rfl (b01_f hnm1) ?_
        refine RT_step (pc2 := 8) rfl (fun _ _ => rfl) ?_
        refine rt_ico rfl ki_1 ?_
        refine ow_iv1 (l2 := ((180, mcl (Int32.ofNat 0) (Int32.ofNat 0) n lim am9 fm9 kM9 nm9 sg9 fa9 qm9 wd9 td9 (posb vs o)) :: (181, mtl ts) :: [(182, ia nw), (187, lng nz), (200, ia (li.set (4 * o) (Int32.ofNat 0)))])) rfl rfl rfl rfl hlen rfl rfl rfl ((hm _ (ov_hl hlen) (ov_at rfl (ov_lt hlen (by decide))) (ov_at rfl (ov_lt hlen (by decide)))).up (by omega)) rfl ?_
        exact ow_irt rfl rfl rfl
      refine FR_st2 (l2 := ((180, mcl (Int32.ofNat 0) (Int32.ofNat 0) n lim am9 fm9 kM9 nm9 sg9 fa9 qm9 wd9 td9 (posb vs o)) :: (181, mtl ts) :: [(182, ia nw), (187, lng nz), (200, ia (li.set (4 * o) (Int32.ofNat 0)))])) rfl rfl rfl ?_
      refine rt_bip rfl k8_8 ?_
      refine RT_step (pc2 := 3) rfl (fun _ _ => rfl) ?_
      refine m_vl (z := Int32.ofNat (4 * o)) hlen (km_is kd t.2.2.2.1).2.2.2.2.2 5 8 _ rfl rfl rfl rfl (fun L2 l0 l1 lw => ?_)
      rw [wj_le t 5 8 (by decide), jv] at lw
      refine rt_ild rfl lw ?_
      refine rt_bip rfl k8_12 ?_
      refine biT_le rfl (n_le (by decide) (by decide)) ?_
      refine rt_ald rfl l0 ?_
      refine ow_gf rfl rfl rfl hlen rfl ?_
      refine rt_ild rfl l1 ?_
      refine rt_ild rfl lw ?_
      refine rt_bip rfl k8_8 ?_
      refine ba_isub rfl ?_
      rw [show Int32.ofNat 8 - Int32.ofNat 8 = Int32.ofNat 0 from rfl]
      refine ow_iasN (l2 := ((180, mcl (Int32.ofNat 0) (Int32.ofNat 0) n lim a pl (km kd) nm sg (Int32.ofNat 0) qm wd td (posb vs o)) :: (181, mtl ts) :: [(182, ia nw), (187, lng nz), (200, ia (li.set (4 * o) (Int32.ofNat 0)))])) rfl rfl (by omega) (by omega) hlen rfl rfl ?_
      refine rt_ald rfl l0 ?_
      refine ow_iv0 (l2 := ((180, mcl (Int32.ofNat 0) (Int32.ofNat 0) n lim a1 pl1 (km kd1) nm1 sg1 (Int32.ofNat 0) qm1 wd1 td (posb vs o)) :: (181, mtl ts) :: [(182, ia nw), (187, lng nz), (200, ia (li.set (4 * o) (Int32.ofNat 0)))])) rfl rfl rfl rfl hlen rfl rfl rfl ((m1 _ (ov_hl hlen) (ov_at rfl (ov_lt hlen (by decide))) (ov_at rfl (ov_lt hlen (by decide)))).up (by omega)) rfl ?_
      refine rt_ald rfl l0 ?_
      refine ow_gf rfl rfl rfl hlen rfl ?_
      refine rt_ild rfl l1 ?_
      refine ow_ialN rfl rfl (List.getElem?_set_self (by omega)) (by omega) hlen rfl ?_
      refine RT_step (pc2 := 80) rfl (fun _ _ => rfl) ?_
      refine rt_ald rfl l0 ?_
      refine rt_ild rfl l1 ?_
      refine rt_ico rfl ki_2 ?_
      refine ba_iadd rfl ?_
      rw [n_add]
      refine rt_ald rfl l0 ?_
      refine rt_bip rfl k8_7 ?_
      refine rt_ald rfl l0 ?_
      refine ow_gf rfl rfl rfl hlen rfl ?_
      refine rt_ico rfl ki_1 ?_
      refine ow_ialN rfl rfl hv1 (by omega) hlen rfl ?_
      refine ow_iv1 (l2 := ((180, mcl (Int32.ofNat 0) (Int32.ofNat 0) n lim am9 fm9 kM9 nm9 sg9 fa9 qm9 wd9 td9 (posb vs o)) :: (181, mtl ts) :: [(182, ia nw), (187, lng nz), (200, ia (li.set (4 * o) (Int32.ofNat 0)))])) rfl rfl rfl rfl hlen rfl rfl rfl (hm2.up (by omega)) rfl ?_
      refine ow_iv1 (l2 := ((180, mcl (Int32.ofNat 0) (Int32.ofNat 0) n lim am9 fm9 kM9 nm9 sg9 fa9 qm9 wd9 td9 (posb vs o)) :: (181, mtl ts) :: [(182, ia nw), (187, lng nz), (200, ia (li.set (4 * o) (Int32.ofNat 0)))])) rfl rfl rfl rfl hlen rfl rfl rfl (m_kp0.up (by omega)) rfl ?_
      refine bcT_eq rfl rfl ?_
      refine rt_ico rfl ki_0 ?_
      exact ow_irt rfl rfl rfl
theorem b_weds13 {B : Nat → Nat} {bs ts : List Int32} {vs : Nat → Value} {bv : Nat → Int32} {n lim : Nat} {k a kd pl w : Nat} {le : Int64} {nu tk td fp nm sg qm : Int32} {wd : Int64} {o : Nat} {u1 u2 u3 u4 nw li : List Int32} {nz : List Int64} {P : Nat} {Dn : Nat} {lw : Int32} {cl : Int32} {id : Int32} {gl : Nat} {bo : Nat} {pn : List Int64} {ri : List Int32} {lf : List Int32} {wa : List Int32} {fo : List Int32} {dn : List Int64} {ha : List Int32} {pa : List Int32} {bl : List Int32} (hB : BY bs B) (hM : MY ts B) (hb : ∀ i, B i < 256) (hn : n ≤ 940) (hl : lim ≤ 940) (t : TF k n a kd w le nu nm sg wd) (hkd : kd ≠ 0) (hk4 : kd ≠ 4) (jv : wjw w 5 8 = 9) (hP : P ≤ 7) (hDn : Dn ≤ 8) (lp : pn.length = 7) (ld : dn.length = 8) (lz : nz.length = 15) (hv : nw[0]? = some (Int32.ofNat P)) (hv1 : nw[1]? = some (Int32.ofNat Dn)) (hN : ∀ i, i < P → ∃ ss, nok ss ∧ pn[i]? = some (p5 ss) ∧ nz[0 + i]? = some (p27 ss)) (hN2 : ∀ i, i < Dn → ∃ ss, nok ss ∧ dn[i]? = some (p5 ss) ∧ nz[7 + i]? = some (p27 ss)) (bx : BX o u1 u2 u3 u4) (ln : li.length = 160) (ho : o < 40) {z : Int32} : (∃ (T M : AE) (li2 : List Int32), FC n lim (posb vs o) T M ∧ li2.length = 160 ∧ LSb 8 55 [.ref 105, .ref 1, .ref 13, .int z] 10 250 [.ref 180, .int (Int32.ofNat (4 * o))] ((1, tcl n lim a kd pl w le nu tk (Int32.ofNat 0) fp) :: (2, bcl bs) :: [(13, dcl13 P Dn lw cl id gl bo), (14, lng pn), (15, ia ri), (16, ia lf), (17, ia wa), (18, ia fo), (19, lng dn), (20, ia ha), (21, ia pa), (22, ia bl), (105, bkc o bv), (106, ia u1), (107, ia u2), (108, ia u3), (109, ia u4)]) ((180, mcl (Int32.ofNat 0) (Int32.ofNat 0) n lim a pl (km kd) nm sg (Int32.ofNat 0) qm wd td (posb vs o)) :: (181, mtl ts) :: [(182, ia nw), (187, lng nz), (200, ia li)]) (.int (Int32.ofNat 0)) (.int (Int32.ofNat 0)) [(1, T)] [(180, M), (200, ia li2)]) ∨ (∃ (k2 : Nat) (tk2 td2 : Int32) (T M : AE) (v1 v2 v3 v4 li2 : List Int32), TC n lim (posb vs o) k2 tk2 td2 T M ∧ BX (o + 1) v1 v2 v3 v4 ∧ li2.length = 160 ∧ LSb 8 55 [.ref 105, .ref 1, .ref 13, .int z] 10 250 [.ref 180, .int (Int32.ofNat (4 * o))] ((1, tcl n lim a kd pl w le nu tk (Int32.ofNat 0) fp) :: (2, bcl bs) :: [(13, dcl13 P Dn lw cl id gl bo), (14, lng pn), (15, ia ri), (16, ia lf), (17, ia wa), (18, ia fo), (19, lng dn), (20, ia ha), (21, ia pa), (22, ia bl), (105, bkc o bv), (106, ia u1), (107, ia u2), (108, ia u3), (109, ia u4)]) ((180, mcl (Int32.ofNat 0) (Int32.ofNat 0) n lim a pl (km kd) nm sg (Int32.ofNat 0) qm wd td (posb vs o)) :: (181, mtl ts) :: [(182, ia nw), (187, lng nz), (200, ia li)]) (.int (Int32.ofNat 1)) (.int (Int32.ofNat 1)) [(1, T), (105, bkc (o + 1) bv), (106, ia v1), (107, ia v2), (108, ia v3), (109, ia v4)] [(180, M), (200, ia li2)]) := by
  obtain ⟨T1, M1, c1, x1, m1⟩ := s_adv hB hM hb hn hl (po := (posb vs o)) (pl := pl) (tk := tk) (td := td) (fp := fp) (plM := qm) t hkd hk4
  obtain ⟨a1, kd1, pl1, w1, le1, nu1, fp1, nm1, sg1, qm1, wd1, rfl, rfl, t1⟩ := c1
  have hw1 := t1.2.2.2.2.1
  by_cases c1 : w1 = 1
  · have hk11 := w_k1 t1 (by omega)
    obtain ⟨rs1, r1, r2, r3, r4, r5, r6⟩ := t1.2.2.2.2.2.1 hk11
    have hr : nok rs1 := ⟨r1, r2, r3⟩
    have hnm1 : (Nat.beq (km kd1) 2 && nmB wd1 30 0) = true := by rw [w_nm t1, c1]; rfl
    have q1 := nm_eq hr hN
    rw [← r4, ← r5] at q1
    clear r1 r2 r3 r4 r5 r6 hr
    cases e1 : fd pn le1 0 P 0 with
    | some j1 =>
      have g1 := q1.symm.trans e1
      have hj1 := (fd_lt e1).2
      obtain ⟨T2, M2, c2, x2, m2⟩ := s_adv hB hM hb hn hl (po := (posb vs o)) (pl := pl1) (tk := tk) (td := (Int32.ofNat j1)) (fp := fp1) (plM := qm1) t1 (by omega) (by omega)
      obtain ⟨a2, kd2, pl2, w2, le2, nu2, fp2, nm2, sg2, qm2, wd2, rfl, rfl, t2⟩ := c2
      have hw2 := t2.2.2.2.2.1
      obtain ⟨v1, v2, v3, v4, bx2, hadd⟩ := bx_add bx ho (Int32.ofNat 10) z (Int32.ofNat j1) (Int32.ofNat 0)
      refine Or.inr ⟨_, tk, (Int32.ofNat j1), tcl n lim a2 kd2 pl2 w2 le2 nu2 tk (Int32.ofNat 0) fp2, mcl (Int32.ofNat 0) (Int32.ofNat 0) n lim a2 pl2 (km kd2) nm2 sg2 (Int32.ofNat 0) qm2 wd2 (Int32.ofNat j1) (posb vs o), v1, v2, v3, v4, ((li.set (4 * o) (Int32.ofNat 1)).set (4 * o + 2) (Int32.ofNat j1)), tf_td t2, bx2, by simp only [List.length_set]; exact ln, fun H hlen => ?_, fun H hlen => ?_⟩
      · have hz : FR 2 71 [.ref 1, .ref 14, .int (Int32.ofNat P)] (ov H ((1, tcl n lim a1 kd1 pl1 w1 le1 nu1 tk (Int32.ofNat 0) fp1) :: (2, bcl bs) :: [(13, dcl13 P Dn lw cl id gl bo), (14, lng pn), (15, ia ri), (16, ia lf), (17, ia wa), (18, ia fo), (19, lng dn), (20, ia ha), (21, ia pa), (22, ia bl), (105, bkc o bv), (106, ia u1), (107, ia u2), (108, ia u3), (109, ia u4)])) (some (.int (Int32.ofNat j1)), ov (ov H ((1, tcl n lim a1 kd1 pl1 w1 le1 nu1 tk (Int32.ofNat 0) fp1) :: (2, bcl bs) :: [(13, dcl13 P Dn lw cl id gl bo), (14, lng pn), (15, ia ri), (16, ia lf), (17, ia wa), (18, ia fo), (19, lng dn), (20, ia ha), (21, ia pa), (22, ia bl), (105, bkc o bv), (106, ia u1), (107, ia u2), (108, ia u3), (109, ia u4)])) [(1, tcl n lim a1 kd1 pl1 w1 le1 nu1 tk (Int32.ofNat 0) fp1)]) := by
          refine FR_st2 (l2 := ((1, tcl n lim a1 kd1 pl1 w1 le1 nu1 tk (Int32.ofNat 0) fp1) :: (2, bcl bs) :: [(13, dcl13 P Dn lw cl id gl bo), (14, lng pn), (15, ia ri), (16, ia lf), (17, ia wa), (18, ia fo), (19, lng dn), (20, ia ha), (21, ia pa), (22, ia bl), (105, bkc o bv), (106, ia u1), (107, ia u2), (108, ia u3), (109, ia u4)])) rfl rfl rfl ?_
          refine RT_step (pc2 := 1) rfl (fun _ _ => rfl) ?_
          refine ow_gf rfl rfl rfl hlen rfl ?_
          refine RT_step (pc2 := 7) rfl (fun _ _ => rfl) ?_
          refine rt_acE rfl (by omega) (by omega) ?_
          refine RT_if c1 ?_
          refine RT_step (pc2 := 19) rfl (fun _ _ => rfl) ?_
          refine RT_step (pc2 := 20) rfl (fun _ _ => rfl) ?_
          refine RT_step (pc2 := 21) rfl (fun _ _ => rfl) ?_
          refine ow_gf rfl rfl rfl hlen rfl ?_
          refine ow_is1 rfl rfl rfl rfl rfl ((x_find14 (ov_hl hlen) (ov_at rfl (ov_lt hlen (by decide))) (by omega) (by omega)).up (by decide)) rfl ?_
          rw [show fdI (fd pn le1 0 P 0) = Int32.ofNat j1 from by rw [e1]; rfl]
          refine RT_step (pc2 := 28) rfl (fun _ _ => rfl) ?_
          refine RT_step (pc2 := 29) rfl (fun _ _ => rfl) ?_
          refine rt_ico rfl ki_m1 ?_
          refine biF_ne rfl (n_m1 (by omega)) ?_
          refine RT_step (pc2 := 40) rfl (fun _ _ => rfl) ?_
          exact ow_irt rfl rfl rfl
        have hy : FR 3 73 [.ref 13, .ref 1] (ov H ((1, tcl n lim a1 kd1 pl1 w1 le1 nu1 tk (Int32.ofNat 0) fp1) :: (2, bcl bs) :: [(13, dcl13 P Dn lw cl id gl bo), (14, lng pn), (15, ia ri), (16, ia lf), (17, ia wa), (18, ia fo), (19, lng dn), (20, ia ha), (21, ia pa), (22, ia bl), (105, bkc o bv), (106, ia u1), (107, ia u2), (108, ia u3), (109, ia u4)])) (some (.int (Int32.ofNat j1)), ov (ov H ((1, tcl n lim a1 kd1 pl1 w1 le1 nu1 tk (Int32.ofNat 0) fp1) :: (2, bcl bs) :: [(13, dcl13 P Dn lw cl id gl bo), (14, lng pn), (15, ia ri), (16, ia lf), (17, ia wa), (18, ia fo), (19, lng dn), (20, ia ha), (21, ia pa), (22, ia bl), (105, bkc o bv), (106, ia u1), (107, ia u2), (108, ia u3), (109, ia u4)])) [(1, tcl n lim a1 kd1 pl1 w1 le1 nu1 tk (Int32.ofNat 0) fp1)]) := by
          refine FR_st2 (l2 := ((1, tcl n lim a1 kd1 pl1 w1 le1 nu1 tk (Int32.ofNat 0) fp1) :: (2, bcl bs) :: [(13, dcl13 P Dn lw cl id gl bo), (14, lng pn), (15, ia ri), (16, ia lf), (17, ia wa), (18, ia fo), (19, lng dn), (20, ia ha), (21, ia pa), (22, ia bl), (105, bkc o bv), (106, ia u1), (107, ia u2), (108, ia u3), (109, ia u4)])) rfl rfl rfl ?_
          refine RT_step (pc2 := 1) rfl (fun _ _ => rfl) ?_
          refine RT_step (pc2 := 2) rfl (fun _ _ => rfl) ?_
          refine ow_gf rfl rfl rfl hlen rfl ?_
          refine RT_step (pc2 := 6) rfl (fun _ _ => rfl) ?_
          refine ow_gf rfl rfl rfl hlen rfl ?_
          refine ow_is1 (l2 := ((1, tcl n lim a1 kd1 pl1 w1 le1 nu1 tk (Int32.ofNat 0) fp1) :: (2, bcl bs) :: [(13, dcl13 P Dn lw cl id gl bo), (14, lng pn), (15, ia ri), (16, ia lf), (17, ia wa), (18, ia fo), (19, lng dn), (20, ia ha), (21, ia pa), (22, ia bl), (105, bkc o bv), (106, ia u1), (107, ia u2), (108, ia u3), (109, ia u4)])) rfl rfl rfl rfl rfl (hz.up (by decide)) rfl ?_
          exact ow_irt rfl rfl rfl
        refine FR_st2 (l2 := ((1, tcl n lim a2 kd2 pl2 w2 le2 nu2 tk (Int32.ofNat 0) fp2) :: (2, bcl bs) :: [(13, dcl13 P Dn lw cl id gl bo), (14, lng pn), (15, ia ri), (16, ia lf), (17, ia wa), (18, ia fo), (19, lng dn), (20, ia ha), (21, ia pa), (22, ia bl), (105, bkc (o + 1) bv), (106, ia v1), (107, ia v2), (108, ia v3), (109, ia v4)])) rfl rfl rfl ?_
        refine RT_step (pc2 := 1) rfl (fun _ _ => rfl) ?_
        refine ow_iv0 (l2 := ((1, tcl n lim a1 kd1 pl1 w1 le1 nu1 tk (Int32.ofNat 0) fp1) :: (2, bcl bs) :: [(13, dcl13 P Dn lw cl id gl bo), (14, lng pn), (15, ia ri), (16, ia lf), (17, ia wa), (18, ia fo), (19, lng dn), (20, ia ha), (21, ia pa), (22, ia bl), (105, bkc o bv), (106, ia u1), (107, ia u2), (108, ia u3), (109, ia u4)])) rfl rfl rfl rfl hlen rfl rfl rfl ((x1 _ (ov_hl hlen) (ov_at rfl (ov_lt hlen (by decide))) (ov_at rfl (ov_lt hlen (by decide)))).up (by decide)) rfl ?_
        refine RT_step (pc2 := 5) rfl (fun _ _ => rfl) ?_
        refine RT_step (pc2 := 6) rfl (fun _ _ => rfl) ?_
        refine ow_iv1 (l2 := ((1, tcl n lim a1 kd1 pl1 w1 le1 nu1 tk (Int32.ofNat 0) fp1) :: (2, bcl bs) :: [(13, dcl13 P Dn lw cl id gl bo), (14, lng pn), (15, ia ri), (16, ia lf), (17, ia wa), (18, ia fo), (19, lng dn), (20, ia ha), (21, ia pa), (22, ia bl), (105, bkc o bv), (106, ia u1), (107, ia u2), (108, ia u3), (109, ia u4)])) rfl rfl rfl rfl hlen rfl rfl rfl (hy.up (by decide)) rfl ?_
        refine RT_step (pc2 := 11) rfl (fun _ _ => rfl) ?_
        refine RT_step (pc2 := 13) rfl (fun _ _ => rfl) ?_
        refine rt_ico rfl ki_m1 ?_
        refine biF_ne rfl (n_m1 (by omega)) ?_
        refine RT_step (pc2 := 20) rfl (fun _ _ => rfl) ?_
        refine rt_bip rfl k8_10 ?_
        refine RT_step (pc2 := 23) rfl (fun _ _ => rfl) ?_
        refine RT_step (pc2 := 25) rfl (fun _ _ => rfl) ?_
        refine rt_ico rfl ki_0 ?_
        refine ow_iv0 (l2 := ((1, tcl n lim a1 kd1 pl1 w1 le1 nu1 tk (Int32.ofNat 0) fp1) :: (2, bcl bs) :: [(13, dcl13 P Dn lw cl id gl bo), (14, lng pn), (15, ia ri), (16, ia lf), (17, ia wa), (18, ia fo), (19, lng dn), (20, ia ha), (21, ia pa), (22, ia bl), (105, bkc (o + 1) bv), (106, ia v1), (107, ia v2), (108, ia v3), (109, ia v4)])) rfl rfl rfl rfl hlen rfl rfl rfl ((hadd bv _ (ov_hl hlen) (ov_at rfl (ov_lt hlen (by decide))) (ov_at rfl (ov_lt hlen (by decide))) (ov_at rfl (ov_lt hlen (by decide))) (ov_at rfl (ov_lt hlen (by decide))) (ov_at rfl (ov_lt hlen (by decide)))).up (by decide)) rfl ?_
        refine RT_step (pc2 := 30) rfl (fun _ _ => rfl) ?_
        refine ow_iv0 (l2 := ((1, tcl n lim a2 kd2 pl2 w2 le2 nu2 tk (Int32.ofNat 0) fp2) :: (2, bcl bs) :: [(13, dcl13 P Dn lw cl id gl bo), (14, lng pn), (15, ia ri), (16, ia lf), (17, ia wa), (18, ia fo), (19, lng dn), (20, ia ha), (21, ia pa), (22, ia bl), (105, bkc (o + 1) bv), (106, ia v1), (107, ia v2), (108, ia v3), (109, ia v4)])) rfl rfl rfl rfl hlen rfl rfl rfl ((x2 _ (ov_hl hlen) (ov_at rfl (ov_lt hlen (by decide))) (ov_at rfl (ov_lt hlen (by decide)))).up (by decide)) rfl ?_
        refine rt_ico rfl ki_1 ?_
        exact ow_irt rfl rfl rfl
      · have hm2 : FR 6 257 [.ref 180, .int (Int32.ofNat 0), .int (Int32.ofNat P)] (ov H ((180, mcl (Int32.ofNat 0) (Int32.ofNat 0) n lim a1 pl1 (km kd1) nm1 sg1 (Int32.ofNat 0) qm1 wd1 td (posb vs o)) :: (181, mtl ts) :: [(182, ia nw), (187, lng nz), (200, ia (li.set (4 * o) (Int32.ofNat 1)))])) (some (.int (Int32.ofNat 1)), ov (ov H ((180, mcl (Int32.ofNat 0) (Int32.ofNat 0) n lim a1 pl1 (km kd1) nm1 sg1 (Int32.ofNat 0) qm1 wd1 td (posb vs o)) :: (181, mtl ts) :: [(182, ia nw), (187, lng nz), (200, ia (li.set (4 * o) (Int32.ofNat 1)))])) [(180, mcl (Int32.ofNat 0) (Int32.ofNat 0) n lim a2 pl2 (km kd2) nm2 sg2 (Int32.ofNat 0) qm2 wd2 (Int32.ofNat j1) (posb vs o))]) := by
          refine FR_st2 (l2 := ((180, mcl (Int32.ofNat 0) (Int32.ofNat 0) n lim a2 pl2 (km kd2) nm2 sg2 (Int32.ofNat 0) qm2 wd2 (Int32.ofNat j1) (posb vs o)) :: (181, mtl ts) :: [(182, ia nw), (187, lng nz), (200, ia (li.set (4 * o) (Int32.ofNat 1)))])) rfl rfl rfl ?_
          refine RT_step (pc2 := 1) rfl (fun _ _ => rfl) ?_
          refine ow_iv1 rfl rfl rfl rfl hlen rfl rfl rfl ((m_isName (ov_hl hlen) (ov_at rfl (ov_lt hlen (by decide))) (km_is kd1 t1.2.2.2.1).2.2.2.2.2).up (by omega)) rfl ?_
          refine bcF_ne rfl (b01_t hnm1) ?_
          refine RT_step (pc2 := 14) rfl (fun _ _ => rfl) ?_
          refine RT_step (pc2 := 15) rfl (fun _ _ => rfl) ?_
          refine ow_gf rfl rfl rfl hlen rfl ?_
          refine RT_step (pc2 := 19) rfl (fun _ _ => rfl) ?_
          refine RT_step (pc2 := 20) rfl (fun _ _ => rfl) ?_
          refine RT_step (pc2 := 21) rfl (fun _ _ => rfl) ?_
          refine ow_gf rfl rfl rfl hlen rfl ?_
          refine ow_is1 rfl rfl rfl rfl rfl ((m_find7 (bs0 := 0) (cnt := P) (ov_hl hlen) (ov_at rfl (ov_lt hlen (by decide))) (by omega) (by omega)).up (by omega)) rfl ?_
          rw [show fdI (fd nz wd1 0 P 0) = Int32.ofNat j1 from by rw [g1]; rfl]
          refine ow_pf (l2 := ((180, mcl (Int32.ofNat 0) (Int32.ofNat 0) n lim a1 pl1 (km kd1) nm1 sg1 (Int32.ofNat 0) qm1 wd1 (Int32.ofNat j1) (posb vs o)) :: (181, mtl ts) :: [(182, ia nw), (187, lng nz), (200, ia (li.set (4 * o) (Int32.ofNat 1)))])) rfl rfl rfl rfl rfl hlen rfl rfl ?_
          refine RT_step (pc2 := 31) rfl (fun _ _ => rfl) ?_
          refine ow_gf rfl rfl rfl hlen rfl ?_
          refine rt_ico rfl ki_m1 ?_
          refine biF_ne rfl (n_m1 (by omega)) ?_
          refine RT_step (pc2 := 45) rfl (fun _ _ => rfl) ?_
          refine ow_iv0 (l2 := ((180, mcl (Int32.ofNat 0) (Int32.ofNat 0) n lim a2 pl2 (km kd2) nm2 sg2 (Int32.ofNat 0) qm2 wd2 (Int32.ofNat j1) (posb vs o)) :: (181, mtl ts) :: [(182, ia nw), (187, lng nz), (200, ia (li.set (4 * o) (Int32.ofNat 1)))])) rfl rfl rfl rfl hlen rfl rfl rfl ((m2 _ (ov_hl hlen) (ov_at rfl (ov_lt hlen (by decide))) (ov_at rfl (ov_lt hlen (by decide)))).up (by omega)) rfl ?_
          refine rt_ico rfl ki_1 ?_
          exact ow_irt rfl rfl rfl
        refine FR_st2 (l2 := ((180, mcl (Int32.ofNat 0) (Int32.ofNat 0) n lim a2 pl2 (km kd2) nm2 sg2 (Int32.ofNat 0) qm2 wd2 (Int32.ofNat j1) (posb vs o)) :: (181, mtl ts) :: [(182, ia nw), (187, lng nz), (200, ia ((li.set (4 * o) (Int32.ofNat 1)).set (4 * o + 2) (Int32.ofNat j1)))])) rfl rfl rfl ?_
        refine rt_bip rfl k8_8 ?_
        refine RT_step (pc2 := 3) rfl (fun _ _ => rfl) ?_
        refine m_vl (z := Int32.ofNat (4 * o)) hlen (km_is kd t.2.2.2.1).2.2.2.2.2 5 8 _ rfl rfl rfl rfl (fun L2 l0 l1 lw => ?_)
        rw [wj_le t 5 8 (by decide), jv] at lw
        refine rt_ild rfl lw ?_
        refine rt_bip rfl k8_12 ?_
        refine biT_le rfl (n_le (by decide) (by decide)) ?_
        refine rt_ald rfl l0 ?_
        refine ow_gf rfl rfl rfl hlen rfl ?_
        refine rt_ild rfl l1 ?_
        refine rt_ild rfl lw ?_
        refine rt_bip rfl k8_8 ?_
        refine ba_isub rfl ?_
        rw [show Int32.ofNat 9 - Int32.ofNat 8 = Int32.ofNat 1 from rfl]
        refine ow_iasN (l2 := ((180, mcl (Int32.ofNat 0) (Int32.ofNat 0) n lim a pl (km kd) nm sg (Int32.ofNat 0) qm wd td (posb vs o)) :: (181, mtl ts) :: [(182, ia nw), (187, lng nz), (200, ia (li.set (4 * o) (Int32.ofNat 1)))])) rfl rfl (by omega) (by omega) hlen rfl rfl ?_
        refine rt_ald rfl l0 ?_
        refine ow_iv0 (l2 := ((180, mcl (Int32.ofNat 0) (Int32.ofNat 0) n lim a1 pl1 (km kd1) nm1 sg1 (Int32.ofNat 0) qm1 wd1 td (posb vs o)) :: (181, mtl ts) :: [(182, ia nw), (187, lng nz), (200, ia (li.set (4 * o) (Int32.ofNat 1)))])) rfl rfl rfl rfl hlen rfl rfl rfl ((m1 _ (ov_hl hlen) (ov_at rfl (ov_lt hlen (by decide))) (ov_at rfl (ov_lt hlen (by decide)))).up (by omega)) rfl ?_
        refine rt_ald rfl l0 ?_
        refine ow_gf rfl rfl rfl hlen rfl ?_
        refine rt_ild rfl l1 ?_
        refine ow_ialN rfl rfl (List.getElem?_set_self (by omega)) (by omega) hlen rfl ?_
        refine RT_step (pc2 := 122) rfl (fun _ _ => rfl) ?_
        refine rt_ald rfl l0 ?_
        refine rt_ild rfl l1 ?_
        refine rt_ico rfl ki_2 ?_
        refine ba_iadd rfl ?_
        rw [n_add]
        refine rt_ald rfl l0 ?_
        refine rt_ico rfl ki_0 ?_
        refine rt_ald rfl l0 ?_
        refine ow_gf rfl rfl rfl hlen rfl ?_
        refine rt_ico rfl ki_0 ?_
        refine ow_ialN rfl rfl hv (by omega) hlen rfl ?_
        refine ow_iv1 (l2 := ((180, mcl (Int32.ofNat 0) (Int32.ofNat 0) n lim a2 pl2 (km kd2) nm2 sg2 (Int32.ofNat 0) qm2 wd2 (Int32.ofNat j1) (posb vs o)) :: (181, mtl ts) :: [(182, ia nw), (187, lng nz), (200, ia (li.set (4 * o) (Int32.ofNat 1)))])) rfl rfl rfl rfl hlen rfl rfl rfl (hm2.up (by omega)) rfl ?_
        refine ow_iv1 (l2 := ((180, mcl (Int32.ofNat 0) (Int32.ofNat 0) n lim a2 pl2 (km kd2) nm2 sg2 (Int32.ofNat 0) qm2 wd2 (Int32.ofNat j1) (posb vs o)) :: (181, mtl ts) :: [(182, ia nw), (187, lng nz), (200, ia ((li.set (4 * o) (Int32.ofNat 1)).set (4 * o + 2) (Int32.ofNat j1)))])) rfl rfl rfl rfl hlen rfl rfl rfl ((m_kp1 (ov_hl hlen) (ov_at rfl (ov_lt hlen (by decide))) (ov_at rfl (ov_lt hlen (by decide))) (by (try simp only [List.length_set]); omega) (by omega)).up (by omega)) rfl ?_
        exact ow_irt rfl rfl rfl
    | none =>
      have g1 := q1.symm.trans e1
      obtain ⟨T, M, f, hx, hm⟩ := s_ref (bs := bs) (ts := ts) (lim := lim) (po := (posb vs o)) (pl := pl1) (tk := tk) (td := (-1 : Int32)) (fp := fp1) (plM := qm1) t1 (kk := 3) (by decide) (by decide) (Or.inl (by omega))
      obtain ⟨a9, kd9, pl9, w9, le9, nu9, tk9, kk9, am9, fm9, kM9, nm9, sg9, fa9, qm9, wd9, td9, rfl, rfl, f9⟩ := f
      refine Or.inl ⟨tcl n lim a9 kd9 pl9 w9 le9 nu9 tk9 (Int32.ofNat kk9) (Int32.ofNat pl9), mcl (Int32.ofNat 0) (Int32.ofNat 0) n lim am9 fm9 kM9 nm9 sg9 fa9 qm9 wd9 td9 (posb vs o), (li.set (4 * o) (Int32.ofNat 1)), ⟨a9, kd9, pl9, w9, le9, nu9, tk9, kk9, am9, fm9, kM9, nm9, sg9, fa9, qm9, wd9, td9, rfl, rfl, f9⟩, by simp only [List.length_set]; exact ln, fun H hlen => ?_, fun H hlen => ?_⟩
      · have hz : FR 2 71 [.ref 1, .ref 14, .int (Int32.ofNat P)] (ov H ((1, tcl n lim a1 kd1 pl1 w1 le1 nu1 tk (Int32.ofNat 0) fp1) :: (2, bcl bs) :: [(13, dcl13 P Dn lw cl id gl bo), (14, lng pn), (15, ia ri), (16, ia lf), (17, ia wa), (18, ia fo), (19, lng dn), (20, ia ha), (21, ia pa), (22, ia bl), (105, bkc o bv), (106, ia u1), (107, ia u2), (108, ia u3), (109, ia u4)])) (some (.int (-1 : Int32)), ov (ov H ((1, tcl n lim a1 kd1 pl1 w1 le1 nu1 tk (Int32.ofNat 0) fp1) :: (2, bcl bs) :: [(13, dcl13 P Dn lw cl id gl bo), (14, lng pn), (15, ia ri), (16, ia lf), (17, ia wa), (18, ia fo), (19, lng dn), (20, ia ha), (21, ia pa), (22, ia bl), (105, bkc o bv), (106, ia u1), (107, ia u2), (108, ia u3), (109, ia u4)])) [(1, tcl n lim a9 kd9 pl9 w9 le9 nu9 tk9 (Int32.ofNat kk9) (Int32.ofNat pl9))]) := by
          refine FR_st2 (l2 := ((1, tcl n lim a9 kd9 pl9 w9 le9 nu9 tk9 (Int32.ofNat kk9) (Int32.ofNat pl9)) :: (2, bcl bs) :: [(13, dcl13 P Dn lw cl id gl bo), (14, lng pn), (15, ia ri), (16, ia lf), (17, ia wa), (18, ia fo), (19, lng dn), (20, ia ha), (21, ia pa), (22, ia bl), (105, bkc o bv), (106, ia u1), (107, ia u2), (108, ia u3), (109, ia u4)])) rfl rfl rfl ?_
          refine RT_step (pc2 := 1) rfl (fun _ _ => rfl) ?_
          refine ow_gf rfl rfl rfl hlen rfl ?_
          refine RT_step (pc2 := 7) rfl (fun _ _ => rfl) ?_
          refine rt_acE rfl (by omega) (by omega) ?_
          refine RT_if c1 ?_
          refine RT_step (pc2 := 19) rfl (fun _ _ => rfl) ?_
          refine RT_step (pc2 := 20) rfl (fun _ _ => rfl) ?_
          refine RT_step (pc2 := 21) rfl (fun _ _ => rfl) ?_
          refine ow_gf rfl rfl rfl hlen rfl ?_
          refine ow_is1 rfl rfl rfl rfl rfl ((x_find14 (ov_hl hlen) (ov_at rfl (ov_lt hlen (by decide))) (by omega) (by omega)).up (by decide)) rfl ?_
          rw [show fdI (fd pn le1 0 P 0) = (-1 : Int32) from by rw [e1]; rfl]
          refine RT_step (pc2 := 28) rfl (fun _ _ => rfl) ?_
          refine RT_step (pc2 := 29) rfl (fun _ _ => rfl) ?_
          refine rt_ico rfl ki_m1 ?_
          refine biT_ne rfl rfl ?_
          refine RT_step (pc2 := 34) rfl (fun _ _ => rfl) ?_
          refine rt_ico rfl ki_3 ?_
          refine ow_iv1 rfl rfl rfl rfl hlen rfl rfl rfl ((hx _ (ov_hl hlen) (ov_at rfl (ov_lt hlen (by decide))) (ov_at rfl (ov_lt hlen (by decide)))).up (by decide)) rfl ?_
          refine RT_step (pc2 := 39) rfl (fun _ _ => rfl) ?_
          refine RT_step (pc2 := 40) rfl (fun _ _ => rfl) ?_
          exact ow_irt rfl rfl rfl
        have hy : FR 3 73 [.ref 13, .ref 1] (ov H ((1, tcl n lim a1 kd1 pl1 w1 le1 nu1 tk (Int32.ofNat 0) fp1) :: (2, bcl bs) :: [(13, dcl13 P Dn lw cl id gl bo), (14, lng pn), (15, ia ri), (16, ia lf), (17, ia wa), (18, ia fo), (19, lng dn), (20, ia ha), (21, ia pa), (22, ia bl), (105, bkc o bv), (106, ia u1), (107, ia u2), (108, ia u3), (109, ia u4)])) (some (.int (-1 : Int32)), ov (ov H ((1, tcl n lim a1 kd1 pl1 w1 le1 nu1 tk (Int32.ofNat 0) fp1) :: (2, bcl bs) :: [(13, dcl13 P Dn lw cl id gl bo), (14, lng pn), (15, ia ri), (16, ia lf), (17, ia wa), (18, ia fo), (19, lng dn), (20, ia ha), (21, ia pa), (22, ia bl), (105, bkc o bv), (106, ia u1), (107, ia u2), (108, ia u3), (109, ia u4)])) [(1, tcl n lim a9 kd9 pl9 w9 le9 nu9 tk9 (Int32.ofNat kk9) (Int32.ofNat pl9))]) := by
          refine FR_st2 (l2 := ((1, tcl n lim a9 kd9 pl9 w9 le9 nu9 tk9 (Int32.ofNat kk9) (Int32.ofNat pl9)) :: (2, bcl bs) :: [(13, dcl13 P Dn lw cl id gl bo), (14, lng pn), (15, ia ri), (16, ia lf), (17, ia wa), (18, ia fo), (19, lng dn), (20, ia ha), (21, ia pa), (22, ia bl), (105, bkc o bv), (106, ia u1), (107, ia u2), (108, ia u3), (109, ia u4)])) rfl rfl rfl ?_
          refine RT_step (pc2 := 1) rfl (fun _ _ => rfl) ?_
          refine RT_step (pc2 := 2) rfl (fun _ _ => rfl) ?_
          refine ow_gf rfl rfl rfl hlen rfl ?_
          refine RT_step (pc2 := 6) rfl (fun _ _ => rfl) ?_
          refine ow_gf rfl rfl rfl hlen rfl ?_
          refine ow_is1 (l2 := ((1, tcl n lim a9 kd9 pl9 w9 le9 nu9 tk9 (Int32.ofNat kk9) (Int32.ofNat pl9)) :: (2, bcl bs) :: [(13, dcl13 P Dn lw cl id gl bo), (14, lng pn), (15, ia ri), (16, ia lf), (17, ia wa), (18, ia fo), (19, lng dn), (20, ia ha), (21, ia pa), (22, ia bl), (105, bkc o bv), (106, ia u1), (107, ia u2), (108, ia u3), (109, ia u4)])) rfl rfl rfl rfl rfl (hz.up (by decide)) rfl ?_
          exact ow_irt rfl rfl rfl
        refine FR_st2 (l2 := ((1, tcl n lim a9 kd9 pl9 w9 le9 nu9 tk9 (Int32.ofNat kk9) (Int32.ofNat pl9)) :: (2, bcl bs) :: [(13, dcl13 P Dn lw cl id gl bo), (14, lng pn), (15, ia ri), (16, ia lf), (17, ia wa), (18, ia fo), (19, lng dn), (20, ia ha), (21, ia pa), (22, ia bl), (105, bkc o bv), (106, ia u1), (107, ia u2), (108, ia u3), (109, ia u4)])) rfl rfl rfl ?_
        refine RT_step (pc2 := 1) rfl (fun _ _ => rfl) ?_
        refine ow_iv0 (l2 := ((1, tcl n lim a1 kd1 pl1 w1 le1 nu1 tk (Int32.ofNat 0) fp1) :: (2, bcl bs) :: [(13, dcl13 P Dn lw cl id gl bo), (14, lng pn), (15, ia ri), (16, ia lf), (17, ia wa), (18, ia fo), (19, lng dn), (20, ia ha), (21, ia pa), (22, ia bl), (105, bkc o bv), (106, ia u1), (107, ia u2), (108, ia u3), (109, ia u4)])) rfl rfl rfl rfl hlen rfl rfl rfl ((x1 _ (ov_hl hlen) (ov_at rfl (ov_lt hlen (by decide))) (ov_at rfl (ov_lt hlen (by decide)))).up (by decide)) rfl ?_
        refine RT_step (pc2 := 5) rfl (fun _ _ => rfl) ?_
        refine RT_step (pc2 := 6) rfl (fun _ _ => rfl) ?_
        refine ow_iv1 (l2 := ((1, tcl n lim a9 kd9 pl9 w9 le9 nu9 tk9 (Int32.ofNat kk9) (Int32.ofNat pl9)) :: (2, bcl bs) :: [(13, dcl13 P Dn lw cl id gl bo), (14, lng pn), (15, ia ri), (16, ia lf), (17, ia wa), (18, ia fo), (19, lng dn), (20, ia ha), (21, ia pa), (22, ia bl), (105, bkc o bv), (106, ia u1), (107, ia u2), (108, ia u3), (109, ia u4)])) rfl rfl rfl rfl hlen rfl rfl rfl (hy.up (by decide)) rfl ?_
        refine RT_step (pc2 := 11) rfl (fun _ _ => rfl) ?_
        refine RT_step (pc2 := 13) rfl (fun _ _ => rfl) ?_
        refine rt_ico rfl ki_m1 ?_
        refine biT_ne rfl rfl ?_
        refine rt_ico rfl ki_0 ?_
        exact ow_irt rfl rfl rfl
      · have hm2 : FR 6 257 [.ref 180, .int (Int32.ofNat 0), .int (Int32.ofNat P)] (ov H ((180, mcl (Int32.ofNat 0) (Int32.ofNat 0) n lim a1 pl1 (km kd1) nm1 sg1 (Int32.ofNat 0) qm1 wd1 td (posb vs o)) :: (181, mtl ts) :: [(182, ia nw), (187, lng nz), (200, ia (li.set (4 * o) (Int32.ofNat 1)))])) (some (.int (Int32.ofNat 0)), ov (ov H ((180, mcl (Int32.ofNat 0) (Int32.ofNat 0) n lim a1 pl1 (km kd1) nm1 sg1 (Int32.ofNat 0) qm1 wd1 td (posb vs o)) :: (181, mtl ts) :: [(182, ia nw), (187, lng nz), (200, ia (li.set (4 * o) (Int32.ofNat 1)))])) [(180, mcl (Int32.ofNat 0) (Int32.ofNat 0) n lim am9 fm9 kM9 nm9 sg9 fa9 qm9 wd9 td9 (posb vs o))]) := by
          refine FR_st2 (l2 := ((180, mcl (Int32.ofNat 0) (Int32.ofNat 0) n lim am9 fm9 kM9 nm9 sg9 fa9 qm9 wd9 td9 (posb vs o)) :: (181, mtl ts) :: [(182, ia nw), (187, lng nz), (200, ia (li.set (4 * o) (Int32.ofNat 1)))])) rfl rfl rfl ?_
          refine RT_step (pc2 := 1) rfl (fun _ _ => rfl) ?_
          refine ow_iv1 rfl rfl rfl rfl hlen rfl rfl rfl ((m_isName (ov_hl hlen) (ov_at rfl (ov_lt hlen (by decide))) (km_is kd1 t1.2.2.2.1).2.2.2.2.2).up (by omega)) rfl ?_
          refine bcF_ne rfl (b01_t hnm1) ?_
          refine RT_step (pc2 := 14) rfl (fun _ _ => rfl) ?_
          refine RT_step (pc2 := 15) rfl (fun _ _ => rfl) ?_
          refine ow_gf rfl rfl rfl hlen rfl ?_
          refine RT_step (pc2 := 19) rfl (fun _ _ => rfl) ?_
          refine RT_step (pc2 := 20) rfl (fun _ _ => rfl) ?_
          refine RT_step (pc2 := 21) rfl (fun _ _ => rfl) ?_
          refine ow_gf rfl rfl rfl hlen rfl ?_
          refine ow_is1 rfl rfl rfl rfl rfl ((m_find7 (bs0 := 0) (cnt := P) (ov_hl hlen) (ov_at rfl (ov_lt hlen (by decide))) (by omega) (by omega)).up (by omega)) rfl ?_
          rw [show fdI (fd nz wd1 0 P 0) = (-1 : Int32) from by rw [g1]; rfl]
          refine ow_pf (l2 := ((180, mcl (Int32.ofNat 0) (Int32.ofNat 0) n lim a1 pl1 (km kd1) nm1 sg1 (Int32.ofNat 0) qm1 wd1 (-1 : Int32) (posb vs o)) :: (181, mtl ts) :: [(182, ia nw), (187, lng nz), (200, ia (li.set (4 * o) (Int32.ofNat 1)))])) rfl rfl rfl rfl rfl hlen rfl rfl ?_
          refine RT_step (pc2 := 31) rfl (fun _ _ => rfl) ?_
          refine ow_gf rfl rfl rfl hlen rfl ?_
          refine rt_ico rfl ki_m1 ?_
          refine biT_ne rfl rfl ?_
          refine RT_step (pc2 := 39) rfl (fun _ _ => rfl) ?_
          refine rt_ico rfl ki_3 ?_
          refine ow_iv1 (l2 := ((180, mcl (Int32.ofNat 0) (Int32.ofNat 0) n lim am9 fm9 kM9 nm9 sg9 fa9 qm9 wd9 td9 (posb vs o)) :: (181, mtl ts) :: [(182, ia nw), (187, lng nz), (200, ia (li.set (4 * o) (Int32.ofNat 1)))])) rfl rfl rfl rfl hlen rfl rfl rfl ((hm _ (ov_hl hlen) (ov_at rfl (ov_lt hlen (by decide))) (ov_at rfl (ov_lt hlen (by decide)))).up (by omega)) rfl ?_
          exact ow_irt rfl rfl rfl
        refine FR_st2 (l2 := ((180, mcl (Int32.ofNat 0) (Int32.ofNat 0) n lim am9 fm9 kM9 nm9 sg9 fa9 qm9 wd9 td9 (posb vs o)) :: (181, mtl ts) :: [(182, ia nw), (187, lng nz), (200, ia (li.set (4 * o) (Int32.ofNat 1)))])) rfl rfl rfl ?_
        refine rt_bip rfl k8_8 ?_
        refine RT_step (pc2 := 3) rfl (fun _ _ => rfl) ?_
        refine m_vl (z := Int32.ofNat (4 * o)) hlen (km_is kd t.2.2.2.1).2.2.2.2.2 5 8 _ rfl rfl rfl rfl (fun L2 l0 l1 lw => ?_)
        rw [wj_le t 5 8 (by decide), jv] at lw
        refine rt_ild rfl lw ?_
        refine rt_bip rfl k8_12 ?_
        refine biT_le rfl (n_le (by decide) (by decide)) ?_
        refine rt_ald rfl l0 ?_
        refine ow_gf rfl rfl rfl hlen rfl ?_
        refine rt_ild rfl l1 ?_
        refine rt_ild rfl lw ?_
        refine rt_bip rfl k8_8 ?_
        refine ba_isub rfl ?_
        rw [show Int32.ofNat 9 - Int32.ofNat 8 = Int32.ofNat 1 from rfl]
        refine ow_iasN (l2 := ((180, mcl (Int32.ofNat 0) (Int32.ofNat 0) n lim a pl (km kd) nm sg (Int32.ofNat 0) qm wd td (posb vs o)) :: (181, mtl ts) :: [(182, ia nw), (187, lng nz), (200, ia (li.set (4 * o) (Int32.ofNat 1)))])) rfl rfl (by omega) (by omega) hlen rfl rfl ?_
        refine rt_ald rfl l0 ?_
        refine ow_iv0 (l2 := ((180, mcl (Int32.ofNat 0) (Int32.ofNat 0) n lim a1 pl1 (km kd1) nm1 sg1 (Int32.ofNat 0) qm1 wd1 td (posb vs o)) :: (181, mtl ts) :: [(182, ia nw), (187, lng nz), (200, ia (li.set (4 * o) (Int32.ofNat 1)))])) rfl rfl rfl rfl hlen rfl rfl rfl ((m1 _ (ov_hl hlen) (ov_at rfl (ov_lt hlen (by decide))) (ov_at rfl (ov_lt hlen (by decide)))).up (by omega)) rfl ?_
        refine rt_ald rfl l0 ?_
        refine ow_gf rfl rfl rfl hlen rfl ?_
        refine rt_ild rfl l1 ?_
        refine ow_ialN rfl rfl (List.getElem?_set_self (by omega)) (by omega) hlen rfl ?_
        refine RT_step (pc2 := 122) rfl (fun _ _ => rfl) ?_
        refine rt_ald rfl l0 ?_
        refine rt_ild rfl l1 ?_
        refine rt_ico rfl ki_2 ?_
        refine ba_iadd rfl ?_
        rw [n_add]
        refine rt_ald rfl l0 ?_
        refine rt_ico rfl ki_0 ?_
        refine rt_ald rfl l0 ?_
        refine ow_gf rfl rfl rfl hlen rfl ?_
        refine rt_ico rfl ki_0 ?_
        refine ow_ialN rfl rfl hv (by omega) hlen rfl ?_
        refine ow_iv1 (l2 := ((180, mcl (Int32.ofNat 0) (Int32.ofNat 0) n lim am9 fm9 kM9 nm9 sg9 fa9 qm9 wd9 td9 (posb vs o)) :: (181, mtl ts) :: [(182, ia nw), (187, lng nz), (200, ia (li.set (4 * o) (Int32.ofNat 1)))])) rfl rfl rfl rfl hlen rfl rfl rfl (hm2.up (by omega)) rfl ?_
        refine ow_iv1 (l2 := ((180, mcl (Int32.ofNat 0) (Int32.ofNat 0) n lim am9 fm9 kM9 nm9 sg9 fa9 qm9 wd9 td9 (posb vs o)) :: (181, mtl ts) :: [(182, ia nw), (187, lng nz), (200, ia (li.set (4 * o) (Int32.ofNat 1)))])) rfl rfl rfl rfl hlen rfl rfl rfl (m_kp0.up (by omega)) rfl ?_
        exact ow_irt rfl rfl rfl
  · have hnm1 : (Nat.beq (km kd1) 2 && nmB wd1 30 0) = false := by rw [w_nm t1]; exact decide_eq_false c1
    obtain ⟨T, M, f, hx, hm⟩ := s_ref (bs := bs) (ts := ts) (lim := lim) (po := (posb vs o)) (pl := pl1) (tk := tk) (td := td) (fp := fp1) (plM := qm1) t1 (kk := 1) (by decide) (by decide) (Or.inr rfl)
    obtain ⟨a9, kd9, pl9, w9, le9, nu9, tk9, kk9, am9, fm9, kM9, nm9, sg9, fa9, qm9, wd9, td9, rfl, rfl, f9⟩ := f
    refine Or.inl ⟨tcl n lim a9 kd9 pl9 w9 le9 nu9 tk9 (Int32.ofNat kk9) (Int32.ofNat pl9), mcl (Int32.ofNat 0) (Int32.ofNat 0) n lim am9 fm9 kM9 nm9 sg9 fa9 qm9 wd9 td9 (posb vs o), (li.set (4 * o) (Int32.ofNat 1)), ⟨a9, kd9, pl9, w9, le9, nu9, tk9, kk9, am9, fm9, kM9, nm9, sg9, fa9, qm9, wd9, td9, rfl, rfl, f9⟩, by simp only [List.length_set]; exact ln, fun H hlen => ?_, fun H hlen => ?_⟩
    · have hz : FR 2 71 [.ref 1, .ref 14, .int (Int32.ofNat P)] (ov H ((1, tcl n lim a1 kd1 pl1 w1 le1 nu1 tk (Int32.ofNat 0) fp1) :: (2, bcl bs) :: [(13, dcl13 P Dn lw cl id gl bo), (14, lng pn), (15, ia ri), (16, ia lf), (17, ia wa), (18, ia fo), (19, lng dn), (20, ia ha), (21, ia pa), (22, ia bl), (105, bkc o bv), (106, ia u1), (107, ia u2), (108, ia u3), (109, ia u4)])) (some (.int (-1 : Int32)), ov (ov H ((1, tcl n lim a1 kd1 pl1 w1 le1 nu1 tk (Int32.ofNat 0) fp1) :: (2, bcl bs) :: [(13, dcl13 P Dn lw cl id gl bo), (14, lng pn), (15, ia ri), (16, ia lf), (17, ia wa), (18, ia fo), (19, lng dn), (20, ia ha), (21, ia pa), (22, ia bl), (105, bkc o bv), (106, ia u1), (107, ia u2), (108, ia u3), (109, ia u4)])) [(1, tcl n lim a9 kd9 pl9 w9 le9 nu9 tk9 (Int32.ofNat kk9) (Int32.ofNat pl9))]) := by
        refine FR_st2 (l2 := ((1, tcl n lim a9 kd9 pl9 w9 le9 nu9 tk9 (Int32.ofNat kk9) (Int32.ofNat pl9)) :: (2, bcl bs) :: [(13, dcl13 P Dn lw cl id gl bo), (14, lng pn), (15, ia ri), (16, ia lf), (17, ia wa), (18, ia fo), (19, lng dn), (20, ia ha), (21, ia pa), (22, ia bl), (105, bkc o bv), (106, ia u1), (107, ia u2), (108, ia u3), (109, ia u4)])) rfl rfl rfl ?_
        refine RT_step (pc2 := 1) rfl (fun _ _ => rfl) ?_
        refine ow_gf rfl rfl rfl hlen rfl ?_
        refine RT_step (pc2 := 7) rfl (fun _ _ => rfl) ?_
        refine rt_acE rfl (by omega) (by omega) ?_
        refine RT_el c1 ?_
        refine RT_step (pc2 := 11) rfl (fun _ _ => rfl) ?_
        refine rt_ico rfl ki_1 ?_
        refine ow_iv1 rfl rfl rfl rfl hlen rfl rfl rfl ((hx _ (ov_hl hlen) (ov_at rfl (ov_lt hlen (by decide))) (ov_at rfl (ov_lt hlen (by decide)))).up (by decide)) rfl ?_
        refine RT_step (pc2 := 16) rfl (fun _ _ => rfl) ?_
        refine rt_ico rfl ki_m1 ?_
        exact ow_irt rfl rfl rfl
      have hy : FR 3 73 [.ref 13, .ref 1] (ov H ((1, tcl n lim a1 kd1 pl1 w1 le1 nu1 tk (Int32.ofNat 0) fp1) :: (2, bcl bs) :: [(13, dcl13 P Dn lw cl id gl bo), (14, lng pn), (15, ia ri), (16, ia lf), (17, ia wa), (18, ia fo), (19, lng dn), (20, ia ha), (21, ia pa), (22, ia bl), (105, bkc o bv), (106, ia u1), (107, ia u2), (108, ia u3), (109, ia u4)])) (some (.int (-1 : Int32)), ov (ov H ((1, tcl n lim a1 kd1 pl1 w1 le1 nu1 tk (Int32.ofNat 0) fp1) :: (2, bcl bs) :: [(13, dcl13 P Dn lw cl id gl bo), (14, lng pn), (15, ia ri), (16, ia lf), (17, ia wa), (18, ia fo), (19, lng dn), (20, ia ha), (21, ia pa), (22, ia bl), (105, bkc o bv), (106, ia u1), (107, ia u2), (108, ia u3), (109, ia u4)])) [(1, tcl n lim a9 kd9 pl9 w9 le9 nu9 tk9 (Int32.ofNat kk9) (Int32.ofNat pl9))]) := by
        refine FR_st2 (l2 := ((1, tcl n lim a9 kd9 pl9 w9 le9 nu9 tk9 (Int32.ofNat kk9) (Int32.ofNat pl9)) :: (2, bcl bs) :: [(13, dcl13 P Dn lw cl id gl bo), (14, lng pn), (15, ia ri), (16, ia lf), (17, ia wa), (18, ia fo), (19, lng dn), (20, ia ha), (21, ia pa), (22, ia bl), (105, bkc o bv), (106, ia u1), (107, ia u2), (108, ia u3), (109, ia u4)])) rfl rfl rfl ?_
        refine RT_step (pc2 := 1) rfl (fun _ _ => rfl) ?_
        refine RT_step (pc2 := 2) rfl (fun _ _ => rfl) ?_
        refine ow_gf rfl rfl rfl hlen rfl ?_
        refine RT_step (pc2 := 6) rfl (fun _ _ => rfl) ?_
        refine ow_gf rfl rfl rfl hlen rfl ?_
        refine ow_is1 (l2 := ((1, tcl n lim a9 kd9 pl9 w9 le9 nu9 tk9 (Int32.ofNat kk9) (Int32.ofNat pl9)) :: (2, bcl bs) :: [(13, dcl13 P Dn lw cl id gl bo), (14, lng pn), (15, ia ri), (16, ia lf), (17, ia wa), (18, ia fo), (19, lng dn), (20, ia ha), (21, ia pa), (22, ia bl), (105, bkc o bv), (106, ia u1), (107, ia u2), (108, ia u3), (109, ia u4)])) rfl rfl rfl rfl rfl (hz.up (by decide)) rfl ?_
        exact ow_irt rfl rfl rfl
      refine FR_st2 (l2 := ((1, tcl n lim a9 kd9 pl9 w9 le9 nu9 tk9 (Int32.ofNat kk9) (Int32.ofNat pl9)) :: (2, bcl bs) :: [(13, dcl13 P Dn lw cl id gl bo), (14, lng pn), (15, ia ri), (16, ia lf), (17, ia wa), (18, ia fo), (19, lng dn), (20, ia ha), (21, ia pa), (22, ia bl), (105, bkc o bv), (106, ia u1), (107, ia u2), (108, ia u3), (109, ia u4)])) rfl rfl rfl ?_
      refine RT_step (pc2 := 1) rfl (fun _ _ => rfl) ?_
      refine ow_iv0 (l2 := ((1, tcl n lim a1 kd1 pl1 w1 le1 nu1 tk (Int32.ofNat 0) fp1) :: (2, bcl bs) :: [(13, dcl13 P Dn lw cl id gl bo), (14, lng pn), (15, ia ri), (16, ia lf), (17, ia wa), (18, ia fo), (19, lng dn), (20, ia ha), (21, ia pa), (22, ia bl), (105, bkc o bv), (106, ia u1), (107, ia u2), (108, ia u3), (109, ia u4)])) rfl rfl rfl rfl hlen rfl rfl rfl ((x1 _ (ov_hl hlen) (ov_at rfl (ov_lt hlen (by decide))) (ov_at rfl (ov_lt hlen (by decide)))).up (by decide)) rfl ?_
      refine RT_step (pc2 := 5) rfl (fun _ _ => rfl) ?_
      refine RT_step (pc2 := 6) rfl (fun _ _ => rfl) ?_
      refine ow_iv1 (l2 := ((1, tcl n lim a9 kd9 pl9 w9 le9 nu9 tk9 (Int32.ofNat kk9) (Int32.ofNat pl9)) :: (2, bcl bs) :: [(13, dcl13 P Dn lw cl id gl bo), (14, lng pn), (15, ia ri), (16, ia lf), (17, ia wa), (18, ia fo), (19, lng dn), (20, ia ha), (21, ia pa), (22, ia bl), (105, bkc o bv), (106, ia u1), (107, ia u2), (108, ia u3), (109, ia u4)])) rfl rfl rfl rfl hlen rfl rfl rfl (hy.up (by decide)) rfl ?_
      refine RT_step (pc2 := 11) rfl (fun _ _ => rfl) ?_
      refine RT_step (pc2 := 13) rfl (fun _ _ => rfl) ?_
      refine rt_ico rfl ki_m1 ?_
      refine biT_ne rfl rfl ?_
      refine rt_ico rfl ki_0 ?_
      exact ow_irt rfl rfl rfl
    · have hm2 : FR 6 257 [.ref 180, .int (Int32.ofNat 0), .int (Int32.ofNat P)] (ov H ((180, mcl (Int32.ofNat 0) (Int32.ofNat 0) n lim a1 pl1 (km kd1) nm1 sg1 (Int32.ofNat 0) qm1 wd1 td (posb vs o)) :: (181, mtl ts) :: [(182, ia nw), (187, lng nz), (200, ia (li.set (4 * o) (Int32.ofNat 1)))])) (some (.int (Int32.ofNat 0)), ov (ov H ((180, mcl (Int32.ofNat 0) (Int32.ofNat 0) n lim a1 pl1 (km kd1) nm1 sg1 (Int32.ofNat 0) qm1 wd1 td (posb vs o)) :: (181, mtl ts) :: [(182, ia nw), (187, lng nz), (200, ia (li.set (4 * o) (Int32.ofNat 1)))])) [(180, mcl (Int32.ofNat 0) (Int32.ofNat 0) n lim am9 fm9 kM9 nm9 sg9 fa9 qm9 wd9 td9 (posb vs o))]) := by
        refine FR_st2 (l2 := ((180, mcl (Int32.ofNat 0) (Int32.ofNat 0) n lim am9 fm9 kM9 nm9 sg9 fa9 qm9 wd9 td9 (posb vs o)) :: (181, mtl ts) :: [(182, ia nw), (187, lng nz), (200, ia (li.set (4 * o) (Int32.ofNat 1)))])) rfl rfl rfl ?_
        refine RT_step (pc2 := 1) rfl (fun _ _ => rfl) ?_
        refine ow_iv1 rfl rfl rfl rfl hlen rfl rfl rfl ((m_isName (ov_hl hlen) (ov_at rfl (ov_lt hlen (by decide))) (km_is kd1 t1.2.2.2.1).2.2.2.2.2).up (by omega)) rfl ?_
        refine bcT_ne rfl (b01_f hnm1) ?_
        refine RT_step (pc2 := 8) rfl (fun _ _ => rfl) ?_
        refine rt_ico rfl ki_1 ?_
        refine ow_iv1 (l2 := ((180, mcl (Int32.ofNat 0) (Int32.ofNat 0) n lim am9 fm9 kM9 nm9 sg9 fa9 qm9 wd9 td9 (posb vs o)) :: (181, mtl ts) :: [(182, ia nw), (187, lng nz), (200, ia (li.set (4 * o) (Int32.ofNat 1)))])) rfl rfl rfl rfl hlen rfl rfl rfl ((hm _ (ov_hl hlen) (ov_at rfl (ov_lt hlen (by decide))) (ov_at rfl (ov_lt hlen (by decide)))).up (by omega)) rfl ?_
        exact ow_irt rfl rfl rfl
      refine FR_st2 (l2 := ((180, mcl (Int32.ofNat 0) (Int32.ofNat 0) n lim am9 fm9 kM9 nm9 sg9 fa9 qm9 wd9 td9 (posb vs o)) :: (181, mtl ts) :: [(182, ia nw), (187, lng nz), (200, ia (li.set (4 * o) (Int32.ofNat 1)))])) rfl rfl rfl ?_
      refine rt_bip rfl k8_8 ?_
      refine RT_step (pc2 := 3) rfl (fun _ _ => rfl) ?_
      refine m_vl (z := Int32.ofNat (4 * o)) hlen (km_is kd t.2.2.2.1).2.2.2.2.2 5 8 _ rfl rfl rfl rfl (fun L2 l0 l1 lw => ?_)
      rw [wj_le t 5 8 (by decide), jv] at lw
      refine rt_ild rfl lw ?_
      refine rt_bip rfl k8_12 ?_
      refine biT_le rfl (n_le (by decide) (by decide)) ?_
      refine rt_ald rfl l0 ?_
      refine ow_gf rfl rfl rfl hlen rfl ?_
      refine rt_ild rfl l1 ?_
      refine rt_ild rfl lw ?_
      refine rt_bip rfl k8_8 ?_
      refine ba_isub rfl ?_
      rw [show Int32.ofNat 9 - Int32.ofNat 8 = Int32.ofNat 1 from rfl]
      refine ow_iasN (l2 := ((180, mcl (Int32.ofNat 0) (Int32.ofNat 0) n lim a pl (km kd) nm sg (Int32.ofNat 0) qm wd td (posb vs o)) :: (181, mtl ts) :: [(182, ia nw), (187, lng nz), (200, ia (li.set (4 * o) (Int32.ofNat 1)))])) rfl rfl (by omega) (by omega) hlen rfl rfl ?_
      refine rt_ald rfl l0 ?_
      refine ow_iv0 (l2 := ((180, mcl (Int32.ofNat 0) (Int32.ofNat 0) n lim a1 pl1 (km kd1) nm1 sg1 (Int32.ofNat 0) qm1 wd1 td (posb vs o)) :: (181, mtl ts) :: [(182, ia nw), (187, lng nz), (200, ia (li.set (4 * o) (Int32.ofNat 1)))])) rfl rfl rfl rfl hlen rfl rfl rfl ((m1 _ (ov_hl hlen) (ov_at rfl (ov_lt hlen (by decide))) (ov_at rfl (ov_lt hlen (by decide)))).up (by omega)) rfl ?_
      refine rt_ald rfl l0 ?_
      refine ow_gf rfl rfl rfl hlen rfl ?_
      refine rt_ild rfl l1 ?_
      refine ow_ialN rfl rfl (List.getElem?_set_self (by omega)) (by omega) hlen rfl ?_
      refine RT_step (pc2 := 122) rfl (fun _ _ => rfl) ?_
      refine rt_ald rfl l0 ?_
      refine rt_ild rfl l1 ?_
      refine rt_ico rfl ki_2 ?_
      refine ba_iadd rfl ?_
      rw [n_add]
      refine rt_ald rfl l0 ?_
      refine rt_ico rfl ki_0 ?_
      refine rt_ald rfl l0 ?_
      refine ow_gf rfl rfl rfl hlen rfl ?_
      refine rt_ico rfl ki_0 ?_
      refine ow_ialN rfl rfl hv (by omega) hlen rfl ?_
      refine ow_iv1 (l2 := ((180, mcl (Int32.ofNat 0) (Int32.ofNat 0) n lim am9 fm9 kM9 nm9 sg9 fa9 qm9 wd9 td9 (posb vs o)) :: (181, mtl ts) :: [(182, ia nw), (187, lng nz), (200, ia (li.set (4 * o) (Int32.ofNat 1)))])) rfl rfl rfl rfl hlen rfl rfl rfl (hm2.up (by omega)) rfl ?_
      refine ow_iv1 (l2 := ((180, mcl (Int32.ofNat 0) (Int32.ofNat 0) n lim am9 fm9 kM9 nm9 sg9 fa9 qm9 wd9 td9 (posb vs o)) :: (181, mtl ts) :: [(182, ia nw), (187, lng nz), (200, ia (li.set (4 * o) (Int32.ofNat 1)))])) rfl rfl rfl rfl hlen rfl rfl rfl (m_kp0.up (by omega)) rfl ?_
      exact ow_irt rfl rfl rfl
