theorem pe13 {B : Nat → Nat} {bs ts : List Int32} {n lim : Nat} {pr : List Value} {k a kd pl w : Nat} {le : Int64} {nu tk td fp nm sg qm : Int32} {wd : Int64} {P : Nat} {Dn : Nat} {lw : Int32} {cl : Int32} {id : Int32} {gl : Nat} {bo : Nat} {pn : List Int64} {ri : List Int32} {lf : List Int32} {wa : List Int32} {fo : List Int32} {dn : List Int64} {ha : List Int32} {pa : List Int32} {bl : List Int32} {rd : List Int32} {rn : List Int64} {on : List Int32} (hB : BY bs B) (hM : MY ts B) (hb : ∀ i, B i < 256) (hn : n ≤ 940) (hl : lim ≤ 940) (t : TF k n a kd w le nu nm sg wd) (hk1 : kd = 1) (d : DR P Dn lw cl id gl bo pn ri lf wa fo dn ha pa bl rd rn on) : (∃ T M D R, FC n lim (pof pr) T M ∧ SH13 D ∧ SHR R ∧ LR bs ts 6 78 [.ref 13, .ref 1] 6 265 [.ref 180] (tcl n lim a kd pl w le nu tk (Int32.ofNat 0) fp) (mcl (Int32.ofNat 0) (Int32.ofNat 0) n lim a pl (km kd) nm sg (Int32.ofNat 0) qm wd td (pof pr)) [(13, dcl13 P Dn lw cl id gl bo), (14, lng pn), (15, ia ri), (16, ia lf), (17, ia wa), (18, ia fo), (19, lng dn), (20, ia ha), (21, ia pa), (22, ia bl)] [(183, ia rd), (188, lng rn), (191, zb on)] (.int (Int32.ofNat 0)) (.int (Int32.ofNat 0)) T M D R) ∨ (∃ tk2 td2 T M D R, TC n lim (pof pr) (k + 1) tk2 td2 T M ∧ SD13 D R ∧ LR bs ts 6 78 [.ref 13, .ref 1] 6 265 [.ref 180] (tcl n lim a kd pl w le nu tk (Int32.ofNat 0) fp) (mcl (Int32.ofNat 0) (Int32.ofNat 0) n lim a pl (km kd) nm sg (Int32.ofNat 0) qm wd td (pof pr)) [(13, dcl13 P Dn lw cl id gl bo), (14, lng pn), (15, ia ri), (16, ia lf), (17, ia wa), (18, ia fo), (19, lng dn), (20, ia ha), (21, ia pa), (22, ia bl)] [(183, ia rd), (188, lng rn), (191, zb on)] (.int (Int32.ofNat 1)) (.int (Int32.ofNat 1)) T M D R) := by
  have d0 := d
  obtain ⟨hP, hD, ⟨l1, l2, l3, l4, l5, l6, l7, l8, l9⟩, lr, ln, lo, hN, hV, hW, o1, o2, o3⟩ := d
  have rc := hV.1
  by_cases c : P = 7
  · obtain ⟨T, M, f, hx, hm⟩ := s_ref (bs := bs) (ts := ts) (lim := lim) (po := pof pr) (pl := pl) (tk := tk) (td := td) (fp := fp) (plM := qm) t (kk := 4) (by decide) (by decide) (Or.inl (by omega))
    have rc2 : rd[0]? = some (Int32.ofNat 7) := by rw [rc, c]
    refine Or.inl ⟨T, M, [(13, dcl13 P Dn lw cl id gl bo), (14, lng pn), (15, ia ri), (16, ia lf), (17, ia wa), (18, ia fo), (19, lng dn), (20, ia ha), (21, ia pa), (22, ia bl)], [(183, ia rd), (188, lng rn), (191, zb on)], f, ⟨_, _, _, _, _, _, _, _, _, _, _, _, _, _, _, _, rfl⟩, ⟨_, _, _, rfl⟩, fun H hlen => ?_, fun H hlen => ?_⟩
    · refine FR_st rfl rfl ?_
      refine RT_step (pc2 := 1) rfl (fun _ _ => rfl) ?_
      refine ow_gf rfl rfl rfl hlen rfl ?_
      refine RT_step (pc2 := 5) rfl (fun _ _ => rfl) ?_
      refine RT_step (pc2 := 6) rfl (fun _ _ => rfl) ?_
      refine rt_bip rfl k8_7 ?_
      refine biF_lt rfl (n_nlt (by omega) (by omega)) ?_
      refine RT_step (pc2 := 12) rfl (fun _ _ => rfl) ?_
      refine rt_ico rfl ki_4 ?_
      refine ow_iv1 (l2 := ((1, T) :: (2, bcl bs) :: [(13, dcl13 P Dn lw cl id gl bo), (14, lng pn), (15, ia ri), (16, ia lf), (17, ia wa), (18, ia fo), (19, lng dn), (20, ia ha), (21, ia pa), (22, ia bl)])) rfl rfl rfl rfl hlen rfl rfl rfl ((hx _ (ov_hl hlen) (ov_at rfl (ov_lt hlen (by decide))) (ov_at rfl (ov_lt hlen (by decide)))).up (by decide)) rfl ?_
      exact ow_irt rfl rfl rfl
    · refine FR_st rfl rfl ?_
      refine RT_step (pc2 := 1) rfl (fun _ _ => rfl) ?_
      refine rt_ico rfl ki_0 ?_
      refine rt_bip rfl k8_7 ?_
      refine ow_iv1 (l2 := ((180, M) :: (181, mtl ts) :: [(183, ia rd), (188, lng rn), (191, zb on)])) rfl rfl rfl rfl hlen rfl rfl rfl ((m_first_f (j := 0) (m := 7) hlen rc2 (by decide) hm).up (by decide)) rfl ?_
      refine bcT_ne rfl rfl ?_
      refine rt_ico rfl ki_0 ?_
      exact ow_irt rfl rfl rfl
  · obtain ⟨T1, M1, c1, x1, m1⟩ := s_adv hB hM hb hn hl (po := pof pr) (pl := pl) (tk := tk) (td := td) (fp := fp) (plM := qm) t (by omega) (by omega)
    obtain ⟨a1, kd1, pl1, w1, le1, nu1, fp1, nm1, sg1, qm1, wd1, rfl, rfl, t1⟩ := c1
    rcases sn13 hB hM hb hn hl (pr := pr) (pl := pl1) (tk := tk) (td := td) (fp := fp1) (qm := qm1) t1 d0 with ⟨T, M, f, h⟩ | ⟨hk2, rs, T2, M2, hr, e5, e27, c2, x2, h⟩
    · refine Or.inl ⟨T, M, [(13, dcl13 P Dn lw cl id gl bo), (14, lng pn), (15, ia ri), (16, ia lf), (17, ia wa), (18, ia fo), (19, lng dn), (20, ia ha), (21, ia pa), (22, ia bl)], [(183, ia rd), (188, lng rn), (191, zb on)], f, ⟨_, _, _, _, _, _, _, _, _, _, _, _, _, _, _, _, rfl⟩, ⟨_, _, _, rfl⟩, fun H hlen => ?_, fun H hlen => ?_⟩
      · refine FR_st rfl rfl ?_
        refine RT_step (pc2 := 1) rfl (fun _ _ => rfl) ?_
        refine ow_gf rfl rfl rfl hlen rfl ?_
        refine RT_step (pc2 := 5) rfl (fun _ _ => rfl) ?_
        refine RT_step (pc2 := 6) rfl (fun _ _ => rfl) ?_
        refine rt_bip rfl k8_7 ?_
        refine biT_lt rfl (n_lt (by omega) (by decide)) ?_
        refine RT_step (pc2 := 18) rfl (fun _ _ => rfl) ?_
        refine ow_iv0 (l2 := ((1, tcl n lim a1 kd1 pl1 w1 le1 nu1 tk (Int32.ofNat 0) fp1) :: (2, bcl bs) :: [(13, dcl13 P Dn lw cl id gl bo), (14, lng pn), (15, ia ri), (16, ia lf), (17, ia wa), (18, ia fo), (19, lng dn), (20, ia ha), (21, ia pa), (22, ia bl)])) rfl rfl rfl rfl hlen rfl rfl rfl ((x1 _ (ov_hl hlen) (ov_at rfl (ov_lt hlen (by decide))) (ov_at rfl (ov_lt hlen (by decide)))).up (by decide)) rfl ?_
        refine RT_step (pc2 := 22) rfl (fun _ _ => rfl) ?_
        refine RT_step (pc2 := 23) rfl (fun _ _ => rfl) ?_
        refine ow_iv1 (l2 := ((1, T) :: (2, bcl bs) :: [(13, dcl13 P Dn lw cl id gl bo), (14, lng pn), (15, ia ri), (16, ia lf), (17, ia wa), (18, ia fo), (19, lng dn), (20, ia ha), (21, ia pa), (22, ia bl)])) rfl rfl rfl rfl hlen rfl rfl rfl (((h P).1 H hlen).up (by decide)) rfl ?_
        refine bcT_ne rfl rfl ?_
        refine rt_ico rfl ki_0 ?_
        exact ow_irt rfl rfl rfl
      · refine FR_st rfl rfl ?_
        refine RT_step (pc2 := 1) rfl (fun _ _ => rfl) ?_
        refine rt_ico rfl ki_0 ?_
        refine rt_bip rfl k8_7 ?_
        refine ow_iv1 (l2 := ((180, mcl (Int32.ofNat 0) (Int32.ofNat 0) n lim a1 pl1 (km kd1) nm1 sg1 (Int32.ofNat 0) qm1 wd1 td (pof pr)) :: (181, mtl ts) :: [(183, ia rd), (188, lng rn), (191, zb on)])) rfl rfl rfl rfl hlen rfl rfl rfl ((m_first_t (j := 0) (m := 7) hlen rc (by decide) c (by omega) (by omega) m1).up (by decide)) rfl ?_
        refine bcF_ne rfl (by decide) ?_
        refine RT_step (pc2 := 13) rfl (fun _ _ => rfl) ?_
        refine ow_gf rfl rfl rfl hlen rfl ?_
        refine rt_ico rfl ki_0 ?_
        refine ow_ialN rfl rfl rc (by omega) hlen rfl ?_
        refine RT_step (pc2 := 19) rfl (fun _ _ => rfl) ?_
        refine RT_step (pc2 := 20) rfl (fun _ _ => rfl) ?_
        refine RT_step (pc2 := 21) rfl (fun _ _ => rfl) ?_
        refine ow_iv1 (l2 := ((180, M) :: (181, mtl ts) :: [(183, ia rd), (188, lng rn), (191, zb on)])) rfl rfl rfl rfl hlen rfl rfl rfl (((h P).2 H hlen).up (by decide)) rfl ?_
        refine bcT_eq rfl rfl ?_
        refine rt_ico rfl ki_0 ?_
        exact ow_irt rfl rfl rfl
    · obtain ⟨a2, kd2, pl2, w2, le2, nu2, fp2, nm2, sg2, qm2, wd2, rfl, rfl, t2⟩ := c2
      rcases s_num hB hM hb hn hl (po := pof pr) (pl := pl2) (tk := tk) (td := td) (fp := fp2) (plM := qm2) t2 (lo := 1) (hi := 9) (by decide) (by decide) with ⟨T, M, f, hx3, hm3⟩ | ⟨v0, T3, M3, g3, u3, c3, hx3, hm3⟩
      · have f0 := f
        obtain ⟨a9, kd9, pl9, w9, le9, nu9, tk9, kk9, am9, fm9, kM9, nm9, sg9, fa9, qm9, wd9, td9, rfl, rfl, -⟩ := f
        refine Or.inl ⟨tcl n lim a9 kd9 pl9 w9 le9 nu9 tk9 (Int32.ofNat kk9) (Int32.ofNat pl9), mcl (Int32.ofNat 0) (Int32.ofNat 0) n lim am9 fm9 kM9 nm9 sg9 fa9 qm9 wd9 td9 (pof pr), [(13, dcl13 P Dn lw cl id gl bo), (14, lng (pn.set P le1)), (15, ia ri), (16, ia lf), (17, ia wa), (18, ia fo), (19, lng dn), (20, ia ha), (21, ia pa), (22, ia bl)], [(183, ia rd), (188, lng (rn.set P wd1)), (191, zb on)], f0, ⟨_, _, _, _, _, _, _, _, _, _, _, _, _, _, _, _, rfl⟩, ⟨_, _, _, rfl⟩, fun H hlen => ?_, fun H hlen => ?_⟩
        · refine FR_st rfl rfl ?_
          refine RT_step (pc2 := 1) rfl (fun _ _ => rfl) ?_
          refine ow_gf rfl rfl rfl hlen rfl ?_
          refine RT_step (pc2 := 5) rfl (fun _ _ => rfl) ?_
          refine RT_step (pc2 := 6) rfl (fun _ _ => rfl) ?_
          refine rt_bip rfl k8_7 ?_
          refine biT_lt rfl (n_lt (by omega) (by decide)) ?_
          refine RT_step (pc2 := 18) rfl (fun _ _ => rfl) ?_
          refine ow_iv0 (l2 := ((1, tcl n lim a1 kd1 pl1 w1 le1 nu1 tk (Int32.ofNat 0) fp1) :: (2, bcl bs) :: [(13, dcl13 P Dn lw cl id gl bo), (14, lng pn), (15, ia ri), (16, ia lf), (17, ia wa), (18, ia fo), (19, lng dn), (20, ia ha), (21, ia pa), (22, ia bl)])) rfl rfl rfl rfl hlen rfl rfl rfl ((x1 _ (ov_hl hlen) (ov_at rfl (ov_lt hlen (by decide))) (ov_at rfl (ov_lt hlen (by decide)))).up (by decide)) rfl ?_
          refine RT_step (pc2 := 22) rfl (fun _ _ => rfl) ?_
          refine RT_step (pc2 := 23) rfl (fun _ _ => rfl) ?_
          refine ow_iv1 (l2 := ((1, tcl n lim a1 kd1 pl1 w1 le1 nu1 tk (Int32.ofNat 0) fp1) :: (2, bcl bs) :: [(13, dcl13 P Dn lw cl id gl bo), (14, lng pn), (15, ia ri), (16, ia lf), (17, ia wa), (18, ia fo), (19, lng dn), (20, ia ha), (21, ia pa), (22, ia bl)])) rfl rfl rfl rfl hlen rfl rfl rfl (((h P (by omega)).1 H hlen).up (by decide)) rfl ?_
          refine bcF_ne rfl (by decide) ?_
          refine RT_step (pc2 := 32) rfl (fun _ _ => rfl) ?_
          refine ow_gf rfl rfl rfl hlen rfl ?_
          refine RT_step (pc2 := 36) rfl (fun _ _ => rfl) ?_
          refine RT_step (pc2 := 37) rfl (fun _ _ => rfl) ?_
          refine ow_gf rfl rfl rfl hlen rfl ?_
          refine ow_lasN (l2 := ((1, tcl n lim a1 kd1 pl1 w1 le1 nu1 tk (Int32.ofNat 0) fp1) :: (2, bcl bs) :: [(13, dcl13 P Dn lw cl id gl bo), (14, lng (pn.set P le1)), (15, ia ri), (16, ia lf), (17, ia wa), (18, ia fo), (19, lng dn), (20, ia ha), (21, ia pa), (22, ia bl)])) rfl rfl (by omega) (by omega) hlen rfl rfl ?_
          refine RT_step (pc2 := 42) rfl (fun _ _ => rfl) ?_
          refine ow_iv0 (l2 := ((1, tcl n lim a2 kd2 pl2 w2 le2 nu2 tk (Int32.ofNat 0) fp2) :: (2, bcl bs) :: [(13, dcl13 P Dn lw cl id gl bo), (14, lng (pn.set P le1)), (15, ia ri), (16, ia lf), (17, ia wa), (18, ia fo), (19, lng dn), (20, ia ha), (21, ia pa), (22, ia bl)])) rfl rfl rfl rfl hlen rfl rfl rfl ((x2 _ (ov_hl hlen) (ov_at rfl (ov_lt hlen (by decide))) (ov_at rfl (ov_lt hlen (by decide)))).up (by decide)) rfl ?_
          refine RT_step (pc2 := 46) rfl (fun _ _ => rfl) ?_
          refine rt_ico rfl ki_1 ?_
          refine rt_bip rfl k8_9 ?_
          refine ow_iv1 (l2 := ((1, tcl n lim a9 kd9 pl9 w9 le9 nu9 tk9 (Int32.ofNat kk9) (Int32.ofNat pl9)) :: (2, bcl bs) :: [(13, dcl13 P Dn lw cl id gl bo), (14, lng (pn.set P le1)), (15, ia ri), (16, ia lf), (17, ia wa), (18, ia fo), (19, lng dn), (20, ia ha), (21, ia pa), (22, ia bl)])) rfl rfl rfl rfl hlen rfl rfl rfl ((hx3 _ (ov_hl hlen) (ov_at rfl (ov_lt hlen (by decide))) (ov_at rfl (ov_lt hlen (by decide)))).up (by decide)) rfl ?_
          refine bcT_ne rfl rfl ?_
          refine rt_ico rfl ki_0 ?_
          exact ow_irt rfl rfl rfl
        · refine FR_st rfl rfl ?_
          refine RT_step (pc2 := 1) rfl (fun _ _ => rfl) ?_
          refine rt_ico rfl ki_0 ?_
          refine rt_bip rfl k8_7 ?_
          refine ow_iv1 (l2 := ((180, mcl (Int32.ofNat 0) (Int32.ofNat 0) n lim a1 pl1 (km kd1) nm1 sg1 (Int32.ofNat 0) qm1 wd1 td (pof pr)) :: (181, mtl ts) :: [(183, ia rd), (188, lng rn), (191, zb on)])) rfl rfl rfl rfl hlen rfl rfl rfl ((m_first_t (j := 0) (m := 7) hlen rc (by decide) c (by omega) (by omega) m1).up (by decide)) rfl ?_
          refine bcF_ne rfl (by decide) ?_
          refine RT_step (pc2 := 13) rfl (fun _ _ => rfl) ?_
          refine ow_gf rfl rfl rfl hlen rfl ?_
          refine rt_ico rfl ki_0 ?_
          refine ow_ialN rfl rfl rc (by omega) hlen rfl ?_
          refine RT_step (pc2 := 19) rfl (fun _ _ => rfl) ?_
          refine RT_step (pc2 := 20) rfl (fun _ _ => rfl) ?_
          refine RT_step (pc2 := 21) rfl (fun _ _ => rfl) ?_
          refine ow_iv1 (l2 := ((180, mcl (Int32.ofNat 0) (Int32.ofNat 0) n lim a2 pl2 (km kd2) nm2 sg2 (Int32.ofNat 0) qm2 wd2 td (pof pr)) :: (181, mtl ts) :: [(183, ia rd), (188, lng (rn.set P wd1)), (191, zb on)])) rfl rfl rfl rfl hlen rfl rfl rfl (((h P (by omega)).2 H hlen).up (by decide)) rfl ?_
          refine bcF_eq rfl (by decide) ?_
          refine RT_step (pc2 := 28) rfl (fun _ _ => rfl) ?_
          refine rt_ico rfl ki_5 ?_
          refine RT_step (pc2 := 30) rfl (fun _ _ => rfl) ?_
          refine ba_iadd rfl ?_
          rw [n_add]
          refine RT_step (pc2 := 32) rfl (fun _ _ => rfl) ?_
          refine rt_ico rfl ki_1 ?_
          refine rt_bip rfl k8_9 ?_
          refine ow_iv1 (l2 := ((180, mcl (Int32.ofNat 0) (Int32.ofNat 0) n lim am9 fm9 kM9 nm9 sg9 fa9 qm9 wd9 td9 (pof pr)) :: (181, mtl ts) :: [(183, ia rd), (188, lng (rn.set P wd1)), (191, zb on)])) rfl rfl rfl rfl hlen rfl rfl rfl ((hm3 _ (ov_hl hlen) (ov_at rfl (ov_lt hlen (by decide))) (ov_at rfl (ov_lt hlen (by decide)))).up (by decide)) rfl ?_
          refine ow_iv1 (l2 := ((180, mcl (Int32.ofNat 0) (Int32.ofNat 0) n lim am9 fm9 kM9 nm9 sg9 fa9 qm9 wd9 td9 (pof pr)) :: (181, mtl ts) :: [(183, ia rd), (188, lng (rn.set P wd1)), (191, zb on)])) rfl rfl rfl rfl hlen rfl rfl rfl (m_put_f.up (by decide)) rfl ?_
          refine bcT_eq rfl rfl ?_
          refine rt_ico rfl ki_0 ?_
          exact ow_irt rfl rfl rfl
      · obtain ⟨a3, kd3, pl3, w3, le3, nu3, fp3, nm3, sg3, qm3, wd3, rfl, rfl, t3⟩ := c3
        rcases s_num hB hM hb hn hl (po := pof pr) (pl := pl3) (tk := (Int32.ofNat v0)) (td := (Int32.ofNat v0)) (fp := fp3) (plM := qm3) t3 (lo := 1) (hi := 9) (by decide) (by decide) with ⟨T, M, f, hx4, hm4⟩ | ⟨v1, T4, M4, g4, u4, c4, hx4, hm4⟩
        · have f0 := f
          obtain ⟨a9, kd9, pl9, w9, le9, nu9, tk9, kk9, am9, fm9, kM9, nm9, sg9, fa9, qm9, wd9, td9, rfl, rfl, -⟩ := f
          refine Or.inl ⟨tcl n lim a9 kd9 pl9 w9 le9 nu9 tk9 (Int32.ofNat kk9) (Int32.ofNat pl9), mcl (Int32.ofNat 0) (Int32.ofNat 0) n lim am9 fm9 kM9 nm9 sg9 fa9 qm9 wd9 td9 (pof pr), [(13, dcl13 P Dn lw cl id gl bo), (14, lng (pn.set P le1)), (15, ia (ri.set P (Int32.ofNat v0))), (16, ia lf), (17, ia wa), (18, ia fo), (19, lng dn), (20, ia ha), (21, ia pa), (22, ia bl)], [(183, ia (rd.set (5 + P) (Int32.ofNat v0))), (188, lng (rn.set P wd1)), (191, zb on)], f0, ⟨_, _, _, _, _, _, _, _, _, _, _, _, _, _, _, _, rfl⟩, ⟨_, _, _, rfl⟩, fun H hlen => ?_, fun H hlen => ?_⟩
          · refine FR_st rfl rfl ?_
            refine RT_step (pc2 := 1) rfl (fun _ _ => rfl) ?_
            refine ow_gf rfl rfl rfl hlen rfl ?_
            refine RT_step (pc2 := 5) rfl (fun _ _ => rfl) ?_
            refine RT_step (pc2 := 6) rfl (fun _ _ => rfl) ?_
            refine rt_bip rfl k8_7 ?_
            refine biT_lt rfl (n_lt (by omega) (by decide)) ?_
            refine RT_step (pc2 := 18) rfl (fun _ _ => rfl) ?_
            refine ow_iv0 (l2 := ((1, tcl n lim a1 kd1 pl1 w1 le1 nu1 tk (Int32.ofNat 0) fp1) :: (2, bcl bs) :: [(13, dcl13 P Dn lw cl id gl bo), (14, lng pn), (15, ia ri), (16, ia lf), (17, ia wa), (18, ia fo), (19, lng dn), (20, ia ha), (21, ia pa), (22, ia bl)])) rfl rfl rfl rfl hlen rfl rfl rfl ((x1 _ (ov_hl hlen) (ov_at rfl (ov_lt hlen (by decide))) (ov_at rfl (ov_lt hlen (by decide)))).up (by decide)) rfl ?_
            refine RT_step (pc2 := 22) rfl (fun _ _ => rfl) ?_
            refine RT_step (pc2 := 23) rfl (fun _ _ => rfl) ?_
            refine ow_iv1 (l2 := ((1, tcl n lim a1 kd1 pl1 w1 le1 nu1 tk (Int32.ofNat 0) fp1) :: (2, bcl bs) :: [(13, dcl13 P Dn lw cl id gl bo), (14, lng pn), (15, ia ri), (16, ia lf), (17, ia wa), (18, ia fo), (19, lng dn), (20, ia ha), (21, ia pa), (22, ia bl)])) rfl rfl rfl rfl hlen rfl rfl rfl (((h P (by omega)).1 H hlen).up (by decide)) rfl ?_
            refine bcF_ne rfl (by decide) ?_
            refine RT_step (pc2 := 32) rfl (fun _ _ => rfl) ?_
            refine ow_gf rfl rfl rfl hlen rfl ?_
            refine RT_step (pc2 := 36) rfl (fun _ _ => rfl) ?_
            refine RT_step (pc2 := 37) rfl (fun _ _ => rfl) ?_
            refine ow_gf rfl rfl rfl hlen rfl ?_
            refine ow_lasN (l2 := ((1, tcl n lim a1 kd1 pl1 w1 le1 nu1 tk (Int32.ofNat 0) fp1) :: (2, bcl bs) :: [(13, dcl13 P Dn lw cl id gl bo), (14, lng (pn.set P le1)), (15, ia ri), (16, ia lf), (17, ia wa), (18, ia fo), (19, lng dn), (20, ia ha), (21, ia pa), (22, ia bl)])) rfl rfl (by omega) (by omega) hlen rfl rfl ?_
            refine RT_step (pc2 := 42) rfl (fun _ _ => rfl) ?_
            refine ow_iv0 (l2 := ((1, tcl n lim a2 kd2 pl2 w2 le2 nu2 tk (Int32.ofNat 0) fp2) :: (2, bcl bs) :: [(13, dcl13 P Dn lw cl id gl bo), (14, lng (pn.set P le1)), (15, ia ri), (16, ia lf), (17, ia wa), (18, ia fo), (19, lng dn), (20, ia ha), (21, ia pa), (22, ia bl)])) rfl rfl rfl rfl hlen rfl rfl rfl ((x2 _ (ov_hl hlen) (ov_at rfl (ov_lt hlen (by decide))) (ov_at rfl (ov_lt hlen (by decide)))).up (by decide)) rfl ?_
            refine RT_step (pc2 := 46) rfl (fun _ _ => rfl) ?_
            refine rt_ico rfl ki_1 ?_
            refine rt_bip rfl k8_9 ?_
            refine ow_iv1 (l2 := ((1, tcl n lim a3 kd3 pl3 w3 le3 nu3 (Int32.ofNat v0) (Int32.ofNat 0) fp3) :: (2, bcl bs) :: [(13, dcl13 P Dn lw cl id gl bo), (14, lng (pn.set P le1)), (15, ia ri), (16, ia lf), (17, ia wa), (18, ia fo), (19, lng dn), (20, ia ha), (21, ia pa), (22, ia bl)])) rfl rfl rfl rfl hlen rfl rfl rfl ((hx3 _ (ov_hl hlen) (ov_at rfl (ov_lt hlen (by decide))) (ov_at rfl (ov_lt hlen (by decide)))).up (by decide)) rfl ?_
            refine bcF_ne rfl (by decide) ?_
            refine RT_step (pc2 := 58) rfl (fun _ _ => rfl) ?_
            refine ow_gf rfl rfl rfl hlen rfl ?_
            refine RT_step (pc2 := 62) rfl (fun _ _ => rfl) ?_
            refine RT_step (pc2 := 63) rfl (fun _ _ => rfl) ?_
            refine ow_gf rfl rfl rfl hlen rfl ?_
            refine ow_iasN (l2 := ((1, tcl n lim a3 kd3 pl3 w3 le3 nu3 (Int32.ofNat v0) (Int32.ofNat 0) fp3) :: (2, bcl bs) :: [(13, dcl13 P Dn lw cl id gl bo), (14, lng (pn.set P le1)), (15, ia (ri.set P (Int32.ofNat v0))), (16, ia lf), (17, ia wa), (18, ia fo), (19, lng dn), (20, ia ha), (21, ia pa), (22, ia bl)])) rfl rfl (by omega) (by omega) hlen rfl rfl ?_
            refine RT_step (pc2 := 68) rfl (fun _ _ => rfl) ?_
            refine rt_ico rfl ki_1 ?_
            refine rt_bip rfl k8_9 ?_
            refine ow_iv1 (l2 := ((1, tcl n lim a9 kd9 pl9 w9 le9 nu9 tk9 (Int32.ofNat kk9) (Int32.ofNat pl9)) :: (2, bcl bs) :: [(13, dcl13 P Dn lw cl id gl bo), (14, lng (pn.set P le1)), (15, ia (ri.set P (Int32.ofNat v0))), (16, ia lf), (17, ia wa), (18, ia fo), (19, lng dn), (20, ia ha), (21, ia pa), (22, ia bl)])) rfl rfl rfl rfl hlen rfl rfl rfl ((hx4 _ (ov_hl hlen) (ov_at rfl (ov_lt hlen (by decide))) (ov_at rfl (ov_lt hlen (by decide)))).up (by decide)) rfl ?_
            refine bcT_ne rfl rfl ?_
            refine rt_ico rfl ki_0 ?_
            exact ow_irt rfl rfl rfl
          · refine FR_st rfl rfl ?_
            refine RT_step (pc2 := 1) rfl (fun _ _ => rfl) ?_
            refine rt_ico rfl ki_0 ?_
            refine rt_bip rfl k8_7 ?_
            refine ow_iv1 (l2 := ((180, mcl (Int32.ofNat 0) (Int32.ofNat 0) n lim a1 pl1 (km kd1) nm1 sg1 (Int32.ofNat 0) qm1 wd1 td (pof pr)) :: (181, mtl ts) :: [(183, ia rd), (188, lng rn), (191, zb on)])) rfl rfl rfl rfl hlen rfl rfl rfl ((m_first_t (j := 0) (m := 7) hlen rc (by decide) c (by omega) (by omega) m1).up (by decide)) rfl ?_
            refine bcF_ne rfl (by decide) ?_
            refine RT_step (pc2 := 13) rfl (fun _ _ => rfl) ?_
            refine ow_gf rfl rfl rfl hlen rfl ?_
            refine rt_ico rfl ki_0 ?_
            refine ow_ialN rfl rfl rc (by omega) hlen rfl ?_
            refine RT_step (pc2 := 19) rfl (fun _ _ => rfl) ?_
            refine RT_step (pc2 := 20) rfl (fun _ _ => rfl) ?_
            refine RT_step (pc2 := 21) rfl (fun _ _ => rfl) ?_
            refine ow_iv1 (l2 := ((180, mcl (Int32.ofNat 0) (Int32.ofNat 0) n lim a2 pl2 (km kd2) nm2 sg2 (Int32.ofNat 0) qm2 wd2 td (pof pr)) :: (181, mtl ts) :: [(183, ia rd), (188, lng (rn.set P wd1)), (191, zb on)])) rfl rfl rfl rfl hlen rfl rfl rfl (((h P (by omega)).2 H hlen).up (by decide)) rfl ?_
            refine bcF_eq rfl (by decide) ?_
            refine RT_step (pc2 := 28) rfl (fun _ _ => rfl) ?_
            refine rt_ico rfl ki_5 ?_
            refine RT_step (pc2 := 30) rfl (fun _ _ => rfl) ?_
            refine ba_iadd rfl ?_
            rw [n_add]
            refine RT_step (pc2 := 32) rfl (fun _ _ => rfl) ?_
            refine rt_ico rfl ki_1 ?_
            refine rt_bip rfl k8_9 ?_
            refine ow_iv1 (l2 := ((180, mcl (Int32.ofNat 0) (Int32.ofNat 0) n lim a3 pl3 (km kd3) nm3 sg3 (Int32.ofNat 0) qm3 wd3 (Int32.ofNat v0) (pof pr)) :: (181, mtl ts) :: [(183, ia rd), (188, lng (rn.set P wd1)), (191, zb on)])) rfl rfl rfl rfl hlen rfl rfl rfl ((hm3 _ (ov_hl hlen) (ov_at rfl (ov_lt hlen (by decide))) (ov_at rfl (ov_lt hlen (by decide)))).up (by decide)) rfl ?_
            refine ow_iv1 (l2 := ((180, mcl (Int32.ofNat 0) (Int32.ofNat 0) n lim a3 pl3 (km kd3) nm3 sg3 (Int32.ofNat 0) qm3 wd3 (Int32.ofNat v0) (pof pr)) :: (181, mtl ts) :: [(183, ia (rd.set (5 + P) (Int32.ofNat v0))), (188, lng (rn.set P wd1)), (191, zb on)])) rfl rfl rfl rfl hlen rfl rfl rfl ((m_put_t (j := 5 + P) hlen (by omega) (by omega)).up (by decide)) rfl ?_
            refine bcF_eq rfl (by decide) ?_
            refine RT_step (pc2 := 45) rfl (fun _ _ => rfl) ?_
            refine rt_bip rfl k8_12 ?_
            refine RT_step (pc2 := 48) rfl (fun _ _ => rfl) ?_
            refine ba_iadd rfl ?_
            rw [n_add]
            refine RT_step (pc2 := 50) rfl (fun _ _ => rfl) ?_
            refine rt_ico rfl ki_1 ?_
            refine rt_bip rfl k8_9 ?_
            refine ow_iv1 (l2 := ((180, mcl (Int32.ofNat 0) (Int32.ofNat 0) n lim am9 fm9 kM9 nm9 sg9 fa9 qm9 wd9 td9 (pof pr)) :: (181, mtl ts) :: [(183, ia (rd.set (5 + P) (Int32.ofNat v0))), (188, lng (rn.set P wd1)), (191, zb on)])) rfl rfl rfl rfl hlen rfl rfl rfl ((hm4 _ (ov_hl hlen) (ov_at rfl (ov_lt hlen (by decide))) (ov_at rfl (ov_lt hlen (by decide)))).up (by decide)) rfl ?_
            refine ow_iv1 (l2 := ((180, mcl (Int32.ofNat 0) (Int32.ofNat 0) n lim am9 fm9 kM9 nm9 sg9 fa9 qm9 wd9 td9 (pof pr)) :: (181, mtl ts) :: [(183, ia (rd.set (5 + P) (Int32.ofNat v0))), (188, lng (rn.set P wd1)), (191, zb on)])) rfl rfl rfl rfl hlen rfl rfl rfl (m_put_f.up (by decide)) rfl ?_
            refine bcT_ne rfl rfl ?_
            refine rt_ico rfl ki_0 ?_
            exact ow_irt rfl rfl rfl
        · obtain ⟨a4, kd4, pl4, w4, le4, nu4, fp4, nm4, sg4, qm4, wd4, rfl, rfl, t4⟩ := c4
          have hw4 := t4.2.2.2.2.1
          have hkm := (km_is kd4 t4.2.2.2.1).2.2.2.2.2
          have lz : ((rd.set (5 + P) (Int32.ofNat v0)).set (12 + P) (Int32.ofNat v1)).length = 101 := by simp only [List.length_set]; exact lr
          have rz : ((rd.set (5 + P) (Int32.ofNat v0)).set (12 + P) (Int32.ofNat v1))[0]? = some (Int32.ofNat P) := by rw [List.getElem?_set_ne (by omega), List.getElem?_set_ne (by omega)]; exact rc
          have ry : ((rd.set (5 + P) (Int32.ofNat v0)).set (12 + P) (Int32.ofNat v1))[19]? = some (Int32.ofNat gl) := by rw [List.getElem?_set_ne (by omega), List.getElem?_set_ne (by omega)]; exact hV.2.2.1
          have hfl : gl < 128 := hV.2.2.2.1
          by_cases cg : w4 = 3
          · have hf1 : isW (km kd4) wd4 21 = true := by rw [w_is t4 (by decide)]; exact decide_eq_true cg
            have hk9 := w_k1 t4 (by omega)
            obtain ⟨T5, M5, c5, x5, m5⟩ := s_adv hB hM hb hn hl (po := pof pr) (pl := pl4) (tk := (Int32.ofNat v1)) (td := (Int32.ofNat v1)) (fp := fp4) (plM := qm4) t4 (by omega) (by omega)
            obtain ⟨a5, kd5, pl5, w5, le5, nu5, fp5, nm5, sg5, qm5, wd5, rfl, rfl, t5⟩ := c5
            have hnf : (gl ||| 2 ^ P) < 128 := or_lt (m := 7) hfl (by omega)
            have ec : ((((rd.set (5 + P) (Int32.ofNat v0)).set (12 + P) (Int32.ofNat v1)).set 19 (Int32.ofNat (gl ||| 2 ^ P))).set 0 (Int32.ofNat (P + 1))) = (((rd.set (5 + P) (Int32.ofNat v0)).set (12 + P) (Int32.ofNat v1)).set 0 (Int32.ofNat (P + 1))).set 19 (Int32.ofNat (gl ||| 2 ^ P)) := List.set_comm _ _ (by omega)
            refine Or.inr ⟨(Int32.ofNat v1), (Int32.ofNat v1), tcl n lim a5 kd5 pl5 w5 le5 nu5 (Int32.ofNat v1) (Int32.ofNat 0) fp5, mcl (Int32.ofNat 0) (Int32.ofNat 0) n lim a5 pl5 (km kd5) nm5 sg5 (Int32.ofNat 0) qm5 wd5 (Int32.ofNat v1) (pof pr), [(13, dcl13 (P + 1) Dn lw cl id (gl ||| 2 ^ P) bo), (14, lng (pn.set P le1)), (15, ia (ri.set P (Int32.ofNat v0))), (16, ia (lf.set P (Int32.ofNat v1))), (17, ia wa), (18, ia fo), (19, lng dn), (20, ia ha), (21, ia pa), (22, ia bl)], [(183, ia ((((rd.set (5 + P) (Int32.ofNat v0)).set (12 + P) (Int32.ofNat v1)).set 19 (Int32.ofNat (gl ||| 2 ^ P))).set 0 (Int32.ofNat (P + 1)))), (188, lng (rn.set P wd1)), (191, zb on)], tc_mono (tf_td t5) (by omega), ⟨_, _, _, _, _, _, _, _, _, _, _, _, _, _, _, _, _, _, _, rfl, rfl, ⟨by omega, hD, ⟨by rw [List.length_set]; exact l1, by rw [List.length_set]; exact l2, by rw [List.length_set]; exact l3, l4, l5, l6, l7, l8, l9⟩, by simp only [List.length_set]; exact lr, by rw [List.length_set]; exact ln, lo, e5 ▸ e27 ▸ nr_p hr hN (by omega) l1 ln, ec ▸ vr_g (vr_p (v1 := (Int32.ofNat v0)) (v2 := (Int32.ofNat v1)) hV (by omega) hD l2 l3 lr) (by omega) (by omega) hnf (by simp only [List.length_set]; exact lr), (wa_up (wa_set (wa_set (wa_set (wa_set hW (Or.inl (by omega))) (Or.inl (by omega))) (Or.inl (by omega))) (Or.inl (by omega)))), oc_set (oc_set (oc_set (oc_set o1 (by omega)) (by omega)) (by omega)) (by omega), oc_set (oc_set (oc_set (oc_set o2 (by omega)) (by omega)) (by omega)) (by omega), oc_set (oc_set (oc_set (oc_set o3 (by omega)) (by omega)) (by omega)) (by omega)⟩⟩, fun H hlen => ?_, fun H hlen => ?_⟩
            · refine FR_st rfl rfl ?_
              refine RT_step (pc2 := 1) rfl (fun _ _ => rfl) ?_
              refine ow_gf rfl rfl rfl hlen rfl ?_
              refine RT_step (pc2 := 5) rfl (fun _ _ => rfl) ?_
              refine RT_step (pc2 := 6) rfl (fun _ _ => rfl) ?_
              refine rt_bip rfl k8_7 ?_
              refine biT_lt rfl (n_lt (by omega) (by decide)) ?_
              refine RT_step (pc2 := 18) rfl (fun _ _ => rfl) ?_
              refine ow_iv0 (l2 := ((1, tcl n lim a1 kd1 pl1 w1 le1 nu1 tk (Int32.ofNat 0) fp1) :: (2, bcl bs) :: [(13, dcl13 P Dn lw cl id gl bo), (14, lng pn), (15, ia ri), (16, ia lf), (17, ia wa), (18, ia fo), (19, lng dn), (20, ia ha), (21, ia pa), (22, ia bl)])) rfl rfl rfl rfl hlen rfl rfl rfl ((x1 _ (ov_hl hlen) (ov_at rfl (ov_lt hlen (by decide))) (ov_at rfl (ov_lt hlen (by decide)))).up (by decide)) rfl ?_
              refine RT_step (pc2 := 22) rfl (fun _ _ => rfl) ?_
              refine RT_step (pc2 := 23) rfl (fun _ _ => rfl) ?_
              refine ow_iv1 (l2 := ((1, tcl n lim a1 kd1 pl1 w1 le1 nu1 tk (Int32.ofNat 0) fp1) :: (2, bcl bs) :: [(13, dcl13 P Dn lw cl id gl bo), (14, lng pn), (15, ia ri), (16, ia lf), (17, ia wa), (18, ia fo), (19, lng dn), (20, ia ha), (21, ia pa), (22, ia bl)])) rfl rfl rfl rfl hlen rfl rfl rfl (((h P (by omega)).1 H hlen).up (by decide)) rfl ?_
              refine bcF_ne rfl (by decide) ?_
              refine RT_step (pc2 := 32) rfl (fun _ _ => rfl) ?_
              refine ow_gf rfl rfl rfl hlen rfl ?_
              refine RT_step (pc2 := 36) rfl (fun _ _ => rfl) ?_
              refine RT_step (pc2 := 37) rfl (fun _ _ => rfl) ?_
              refine ow_gf rfl rfl rfl hlen rfl ?_
              refine ow_lasN (l2 := ((1, tcl n lim a1 kd1 pl1 w1 le1 nu1 tk (Int32.ofNat 0) fp1) :: (2, bcl bs) :: [(13, dcl13 P Dn lw cl id gl bo), (14, lng (pn.set P le1)), (15, ia ri), (16, ia lf), (17, ia wa), (18, ia fo), (19, lng dn), (20, ia ha), (21, ia pa), (22, ia bl)])) rfl rfl (by omega) (by omega) hlen rfl rfl ?_
              refine RT_step (pc2 := 42) rfl (fun _ _ => rfl) ?_
              refine ow_iv0 (l2 := ((1, tcl n lim a2 kd2 pl2 w2 le2 nu2 tk (Int32.ofNat 0) fp2) :: (2, bcl bs) :: [(13, dcl13 P Dn lw cl id gl bo), (14, lng (pn.set P le1)), (15, ia ri), (16, ia lf), (17, ia wa), (18, ia fo), (19, lng dn), (20, ia ha), (21, ia pa), (22, ia bl)])) rfl rfl rfl rfl hlen rfl rfl rfl ((x2 _ (ov_hl hlen) (ov_at rfl (ov_lt hlen (by decide))) (ov_at rfl (ov_lt hlen (by decide)))).up (by decide)) rfl ?_
              refine RT_step (pc2 := 46) rfl (fun _ _ => rfl) ?_
              refine rt_ico rfl ki_1 ?_
              refine rt_bip rfl k8_9 ?_
              refine ow_iv1 (l2 := ((1, tcl n lim a3 kd3 pl3 w3 le3 nu3 (Int32.ofNat v0) (Int32.ofNat 0) fp3) :: (2, bcl bs) :: [(13, dcl13 P Dn lw cl id gl bo), (14, lng (pn.set P le1)), (15, ia ri), (16, ia lf), (17, ia wa), (18, ia fo), (19, lng dn), (20, ia ha), (21, ia pa), (22, ia bl)])) rfl rfl rfl rfl hlen rfl rfl rfl ((hx3 _ (ov_hl hlen) (ov_at rfl (ov_lt hlen (by decide))) (ov_at rfl (ov_lt hlen (by decide)))).up (by decide)) rfl ?_
              refine bcF_ne rfl (by decide) ?_
              refine RT_step (pc2 := 58) rfl (fun _ _ => rfl) ?_
              refine ow_gf rfl rfl rfl hlen rfl ?_
              refine RT_step (pc2 := 62) rfl (fun _ _ => rfl) ?_
              refine RT_step (pc2 := 63) rfl (fun _ _ => rfl) ?_
              refine ow_gf rfl rfl rfl hlen rfl ?_
              refine ow_iasN (l2 := ((1, tcl n lim a3 kd3 pl3 w3 le3 nu3 (Int32.ofNat v0) (Int32.ofNat 0) fp3) :: (2, bcl bs) :: [(13, dcl13 P Dn lw cl id gl bo), (14, lng (pn.set P le1)), (15, ia (ri.set P (Int32.ofNat v0))), (16, ia lf), (17, ia wa), (18, ia fo), (19, lng dn), (20, ia ha), (21, ia pa), (22, ia bl)])) rfl rfl (by omega) (by omega) hlen rfl rfl ?_
              refine RT_step (pc2 := 68) rfl (fun _ _ => rfl) ?_
              refine rt_ico rfl ki_1 ?_
              refine rt_bip rfl k8_9 ?_
              refine ow_iv1 (l2 := ((1, tcl n lim a4 kd4 pl4 w4 le4 nu4 (Int32.ofNat v1) (Int32.ofNat 0) fp4) :: (2, bcl bs) :: [(13, dcl13 P Dn lw cl id gl bo), (14, lng (pn.set P le1)), (15, ia (ri.set P (Int32.ofNat v0))), (16, ia lf), (17, ia wa), (18, ia fo), (19, lng dn), (20, ia ha), (21, ia pa), (22, ia bl)])) rfl rfl rfl rfl hlen rfl rfl rfl ((hx4 _ (ov_hl hlen) (ov_at rfl (ov_lt hlen (by decide))) (ov_at rfl (ov_lt hlen (by decide)))).up (by decide)) rfl ?_
              refine bcF_ne rfl (by decide) ?_
              refine RT_step (pc2 := 80) rfl (fun _ _ => rfl) ?_
              refine ow_gf rfl rfl rfl hlen rfl ?_
              refine RT_step (pc2 := 84) rfl (fun _ _ => rfl) ?_
              refine RT_step (pc2 := 85) rfl (fun _ _ => rfl) ?_
              refine ow_gf rfl rfl rfl hlen rfl ?_
              refine ow_iasN (l2 := ((1, tcl n lim a4 kd4 pl4 w4 le4 nu4 (Int32.ofNat v1) (Int32.ofNat 0) fp4) :: (2, bcl bs) :: [(13, dcl13 P Dn lw cl id gl bo), (14, lng (pn.set P le1)), (15, ia (ri.set P (Int32.ofNat v0))), (16, ia (lf.set P (Int32.ofNat v1))), (17, ia wa), (18, ia fo), (19, lng dn), (20, ia ha), (21, ia pa), (22, ia bl)])) rfl rfl (by omega) (by omega) hlen rfl rfl ?_
              refine RT_step (pc2 := 90) rfl (fun _ _ => rfl) ?_
              refine ow_gf rfl rfl rfl hlen rfl ?_
              refine RT_step (pc2 := 96) rfl (fun _ _ => rfl) ?_
              refine rt_acN rfl (by omega) (by omega) ?_
              refine RT_if cg ?_
              refine RT_step (pc2 := 100) rfl (fun _ _ => rfl) ?_
              refine RT_step (pc2 := 101) rfl (fun _ _ => rfl) ?_
              refine ow_gf rfl rfl rfl hlen rfl ?_
              refine rt_ico rfl ki_1 ?_
              refine RT_step (pc2 := 106) rfl (fun _ _ => rfl) ?_
              refine ba_ishl rfl ?_
              refine ba_ior rfl ?_
              rw [or_1 P (by omega) gl (by omega)]
              refine ow_pf rfl rfl rfl rfl rfl hlen rfl rfl ?_
              refine RT_step (pc2 := 112) rfl (fun _ _ => rfl) ?_
              refine ow_iv0 (l2 := ((1, tcl n lim a5 kd5 pl5 w5 le5 nu5 (Int32.ofNat v1) (Int32.ofNat 0) fp5) :: (2, bcl bs) :: [(13, dcl13 P Dn lw cl id (gl ||| 2 ^ P) bo), (14, lng (pn.set P le1)), (15, ia (ri.set P (Int32.ofNat v0))), (16, ia (lf.set P (Int32.ofNat v1))), (17, ia wa), (18, ia fo), (19, lng dn), (20, ia ha), (21, ia pa), (22, ia bl)])) rfl rfl rfl rfl hlen rfl rfl rfl ((x5 _ (ov_hl hlen) (ov_at rfl (ov_lt hlen (by decide))) (ov_at rfl (ov_lt hlen (by decide)))).up (by decide)) rfl ?_
              refine RT_step (pc2 := 116) rfl (fun _ _ => rfl) ?_
              refine RT_step (pc2 := 117) rfl (fun _ _ => rfl) ?_
              refine rt_ico rfl ki_1 ?_
              refine ba_iadd rfl ?_
              rw [n_add]
              refine ow_pf rfl rfl rfl rfl rfl hlen rfl rfl ?_
              refine rt_ico rfl ki_1 ?_
              exact ow_irt rfl rfl rfl
            · refine FR_st rfl rfl ?_
              refine RT_step (pc2 := 1) rfl (fun _ _ => rfl) ?_
              refine rt_ico rfl ki_0 ?_
              refine rt_bip rfl k8_7 ?_
              refine ow_iv1 (l2 := ((180, mcl (Int32.ofNat 0) (Int32.ofNat 0) n lim a1 pl1 (km kd1) nm1 sg1 (Int32.ofNat 0) qm1 wd1 td (pof pr)) :: (181, mtl ts) :: [(183, ia rd), (188, lng rn), (191, zb on)])) rfl rfl rfl rfl hlen rfl rfl rfl ((m_first_t (j := 0) (m := 7) hlen rc (by decide) c (by omega) (by omega) m1).up (by decide)) rfl ?_
              refine bcF_ne rfl (by decide) ?_
              refine RT_step (pc2 := 13) rfl (fun _ _ => rfl) ?_
              refine ow_gf rfl rfl rfl hlen rfl ?_
              refine rt_ico rfl ki_0 ?_
              refine ow_ialN rfl rfl rc (by omega) hlen rfl ?_
              refine RT_step (pc2 := 19) rfl (fun _ _ => rfl) ?_
              refine RT_step (pc2 := 20) rfl (fun _ _ => rfl) ?_
              refine RT_step (pc2 := 21) rfl (fun _ _ => rfl) ?_
              refine ow_iv1 (l2 := ((180, mcl (Int32.ofNat 0) (Int32.ofNat 0) n lim a2 pl2 (km kd2) nm2 sg2 (Int32.ofNat 0) qm2 wd2 td (pof pr)) :: (181, mtl ts) :: [(183, ia rd), (188, lng (rn.set P wd1)), (191, zb on)])) rfl rfl rfl rfl hlen rfl rfl rfl (((h P (by omega)).2 H hlen).up (by decide)) rfl ?_
              refine bcF_eq rfl (by decide) ?_
              refine RT_step (pc2 := 28) rfl (fun _ _ => rfl) ?_
              refine rt_ico rfl ki_5 ?_
              refine RT_step (pc2 := 30) rfl (fun _ _ => rfl) ?_
              refine ba_iadd rfl ?_
              rw [n_add]
              refine RT_step (pc2 := 32) rfl (fun _ _ => rfl) ?_
              refine rt_ico rfl ki_1 ?_
              refine rt_bip rfl k8_9 ?_
              refine ow_iv1 (l2 := ((180, mcl (Int32.ofNat 0) (Int32.ofNat 0) n lim a3 pl3 (km kd3) nm3 sg3 (Int32.ofNat 0) qm3 wd3 (Int32.ofNat v0) (pof pr)) :: (181, mtl ts) :: [(183, ia rd), (188, lng (rn.set P wd1)), (191, zb on)])) rfl rfl rfl rfl hlen rfl rfl rfl ((hm3 _ (ov_hl hlen) (ov_at rfl (ov_lt hlen (by decide))) (ov_at rfl (ov_lt hlen (by decide)))).up (by decide)) rfl ?_
              refine ow_iv1 (l2 := ((180, mcl (Int32.ofNat 0) (Int32.ofNat 0) n lim a3 pl3 (km kd3) nm3 sg3 (Int32.ofNat 0) qm3 wd3 (Int32.ofNat v0) (pof pr)) :: (181, mtl ts) :: [(183, ia (rd.set (5 + P) (Int32.ofNat v0))), (188, lng (rn.set P wd1)), (191, zb on)])) rfl rfl rfl rfl hlen rfl rfl rfl ((m_put_t (j := 5 + P) hlen (by omega) (by omega)).up (by decide)) rfl ?_
              refine bcF_eq rfl (by decide) ?_
              refine RT_step (pc2 := 45) rfl (fun _ _ => rfl) ?_
              refine rt_bip rfl k8_12 ?_
              refine RT_step (pc2 := 48) rfl (fun _ _ => rfl) ?_
              refine ba_iadd rfl ?_
              rw [n_add]
              refine RT_step (pc2 := 50) rfl (fun _ _ => rfl) ?_
              refine rt_ico rfl ki_1 ?_
              refine rt_bip rfl k8_9 ?_
              refine ow_iv1 (l2 := ((180, mcl (Int32.ofNat 0) (Int32.ofNat 0) n lim a4 pl4 (km kd4) nm4 sg4 (Int32.ofNat 0) qm4 wd4 (Int32.ofNat v1) (pof pr)) :: (181, mtl ts) :: [(183, ia (rd.set (5 + P) (Int32.ofNat v0))), (188, lng (rn.set P wd1)), (191, zb on)])) rfl rfl rfl rfl hlen rfl rfl rfl ((hm4 _ (ov_hl hlen) (ov_at rfl (ov_lt hlen (by decide))) (ov_at rfl (ov_lt hlen (by decide)))).up (by decide)) rfl ?_
              refine ow_iv1 (l2 := ((180, mcl (Int32.ofNat 0) (Int32.ofNat 0) n lim a4 pl4 (km kd4) nm4 sg4 (Int32.ofNat 0) qm4 wd4 (Int32.ofNat v1) (pof pr)) :: (181, mtl ts) :: [(183, ia ((rd.set (5 + P) (Int32.ofNat v0)).set (12 + P) (Int32.ofNat v1))), (188, lng (rn.set P wd1)), (191, zb on)])) rfl rfl rfl rfl hlen rfl rfl rfl ((m_put_t (j := 12 + P) hlen (by simp only [List.length_set]; omega) (by omega)).up (by decide)) rfl ?_
              refine bcF_ne rfl (by decide) ?_
              refine RT_step (pc2 := 65) rfl (fun _ _ => rfl) ?_
              refine rt_bip rfl k8_21 ?_
              refine rt_bip rfl k8_19 ?_
              refine RT_step (pc2 := 70) rfl (fun _ _ => rfl) ?_
              refine ow_iv0 (l2 := ((180, mcl (Int32.ofNat 0) (Int32.ofNat 0) n lim a5 pl5 (km kd5) nm5 sg5 (Int32.ofNat 0) qm5 wd5 (Int32.ofNat v1) (pof pr)) :: (181, mtl ts) :: [(183, ia (((rd.set (5 + P) (Int32.ofNat v0)).set (12 + P) (Int32.ofNat v1)).set 19 (Int32.ofNat (gl ||| 2 ^ P)))), (188, lng (rn.set P wd1)), (191, zb on)])) rfl rfl rfl rfl hlen rfl rfl rfl ((m_flag_t (wj := 21) (row := 19) (kk := P) hlen hkm (by decide) hf1 ry (by decide) lz (by omega) (by omega) m5).up (by decide)) rfl ?_
              refine RT_step (pc2 := 74) rfl (fun _ _ => rfl) ?_
              refine ow_gf rfl rfl rfl hlen rfl ?_
              refine rt_ico rfl ki_0 ?_
              refine RT_step (pc2 := 79) rfl (fun _ _ => rfl) ?_
              refine ow_ialN rfl rfl (by rw [List.getElem?_set_ne (by omega)]; exact rz) (by omega) hlen rfl ?_
              refine rt_ico rfl ki_1 ?_
              refine ba_iadd rfl ?_
              rw [n_add]
              refine ow_iasN rfl rfl (by simp only [List.length_set]; omega) (by omega) hlen rfl rfl ?_
              refine rt_ico rfl ki_1 ?_
              exact ow_irt rfl rfl rfl
          · have hf0 : isW (km kd4) wd4 21 = false := by rw [w_is t4 (by decide)]; exact decide_eq_false cg
            refine Or.inr ⟨(Int32.ofNat v1), (Int32.ofNat v1), tcl n lim a4 kd4 pl4 w4 le4 nu4 (Int32.ofNat v1) (Int32.ofNat 0) fp4, mcl (Int32.ofNat 0) (Int32.ofNat 0) n lim a4 pl4 (km kd4) nm4 sg4 (Int32.ofNat 0) qm4 wd4 (Int32.ofNat v1) (pof pr), [(13, dcl13 (P + 1) Dn lw cl id gl bo), (14, lng (pn.set P le1)), (15, ia (ri.set P (Int32.ofNat v0))), (16, ia (lf.set P (Int32.ofNat v1))), (17, ia wa), (18, ia fo), (19, lng dn), (20, ia ha), (21, ia pa), (22, ia bl)], [(183, ia (((rd.set (5 + P) (Int32.ofNat v0)).set (12 + P) (Int32.ofNat v1)).set 0 (Int32.ofNat (P + 1)))), (188, lng (rn.set P wd1)), (191, zb on)], tc_mono (tf_td t4) (by omega), ⟨_, _, _, _, _, _, _, _, _, _, _, _, _, _, _, _, _, _, _, rfl, rfl, ⟨by omega, hD, ⟨by rw [List.length_set]; exact l1, by rw [List.length_set]; exact l2, by rw [List.length_set]; exact l3, l4, l5, l6, l7, l8, l9⟩, by simp only [List.length_set]; exact lr, by rw [List.length_set]; exact ln, lo, e5 ▸ e27 ▸ nr_p hr hN (by omega) l1 ln, vr_p (v1 := (Int32.ofNat v0)) (v2 := (Int32.ofNat v1)) hV (by omega) hD l2 l3 lr, (wa_up (wa_set (wa_set (wa_set hW (Or.inl (by omega))) (Or.inl (by omega))) (Or.inl (by omega)))), oc_set (oc_set (oc_set o1 (by omega)) (by omega)) (by omega), oc_set (oc_set (oc_set o2 (by omega)) (by omega)) (by omega), oc_set (oc_set (oc_set o3 (by omega)) (by omega)) (by omega)⟩⟩, fun H hlen => ?_, fun H hlen => ?_⟩
            · refine FR_st rfl rfl ?_
              refine RT_step (pc2 := 1) rfl (fun _ _ => rfl) ?_
              refine ow_gf rfl rfl rfl hlen rfl ?_
              refine RT_step (pc2 := 5) rfl (fun _ _ => rfl) ?_
              refine RT_step (pc2 := 6) rfl (fun _ _ => rfl) ?_
              refine rt_bip rfl k8_7 ?_
              refine biT_lt rfl (n_lt (by omega) (by decide)) ?_
              refine RT_step (pc2 := 18) rfl (fun _ _ => rfl) ?_
              refine ow_iv0 (l2 := ((1, tcl n lim a1 kd1 pl1 w1 le1 nu1 tk (Int32.ofNat 0) fp1) :: (2, bcl bs) :: [(13, dcl13 P Dn lw cl id gl bo), (14, lng pn), (15, ia ri), (16, ia lf), (17, ia wa), (18, ia fo), (19, lng dn), (20, ia ha), (21, ia pa), (22, ia bl)])) rfl rfl rfl rfl hlen rfl rfl rfl ((x1 _ (ov_hl hlen) (ov_at rfl (ov_lt hlen (by decide))) (ov_at rfl (ov_lt hlen (by decide)))).up (by decide)) rfl ?_
              refine RT_step (pc2 := 22) rfl (fun _ _ => rfl) ?_
              refine RT_step (pc2 := 23) rfl (fun _ _ => rfl) ?_
              refine ow_iv1 (l2 := ((1, tcl n lim a1 kd1 pl1 w1 le1 nu1 tk (Int32.ofNat 0) fp1) :: (2, bcl bs) :: [(13, dcl13 P Dn lw cl id gl bo), (14, lng pn), (15, ia ri), (16, ia lf), (17, ia wa), (18, ia fo), (19, lng dn), (20, ia ha), (21, ia pa), (22, ia bl)])) rfl rfl rfl rfl hlen rfl rfl rfl (((h P (by omega)).1 H hlen).up (by decide)) rfl ?_
              refine bcF_ne rfl (by decide) ?_
              refine RT_step (pc2 := 32) rfl (fun _ _ => rfl) ?_
              refine ow_gf rfl rfl rfl hlen rfl ?_
              refine RT_step (pc2 := 36) rfl (fun _ _ => rfl) ?_
              refine RT_step (pc2 := 37) rfl (fun _ _ => rfl) ?_
              refine ow_gf rfl rfl rfl hlen rfl ?_
              refine ow_lasN (l2 := ((1, tcl n lim a1 kd1 pl1 w1 le1 nu1 tk (Int32.ofNat 0) fp1) :: (2, bcl bs) :: [(13, dcl13 P Dn lw cl id gl bo), (14, lng (pn.set P le1)), (15, ia ri), (16, ia lf), (17, ia wa), (18, ia fo), (19, lng dn), (20, ia ha), (21, ia pa), (22, ia bl)])) rfl rfl (by omega) (by omega) hlen rfl rfl ?_
              refine RT_step (pc2 := 42) rfl (fun _ _ => rfl) ?_
              refine ow_iv0 (l2 := ((1, tcl n lim a2 kd2 pl2 w2 le2 nu2 tk (Int32.ofNat 0) fp2) :: (2, bcl bs) :: [(13, dcl13 P Dn lw cl id gl bo), (14, lng (pn.set P le1)), (15, ia ri), (16, ia lf), (17, ia wa), (18, ia fo), (19, lng dn), (20, ia ha), (21, ia pa), (22, ia bl)])) rfl rfl rfl rfl hlen rfl rfl rfl ((x2 _ (ov_hl hlen) (ov_at rfl (ov_lt hlen (by decide))) (ov_at rfl (ov_lt hlen (by decide)))).up (by decide)) rfl ?_
              refine RT_step (pc2 := 46) rfl (fun _ _ => rfl) ?_
              refine rt_ico rfl ki_1 ?_
              refine rt_bip rfl k8_9 ?_
              refine ow_iv1 (l2 := ((1, tcl n lim a3 kd3 pl3 w3 le3 nu3 (Int32.ofNat v0) (Int32.ofNat 0) fp3) :: (2, bcl bs) :: [(13, dcl13 P Dn lw cl id gl bo), (14, lng (pn.set P le1)), (15, ia ri), (16, ia lf), (17, ia wa), (18, ia fo), (19, lng dn), (20, ia ha), (21, ia pa), (22, ia bl)])) rfl rfl rfl rfl hlen rfl rfl rfl ((hx3 _ (ov_hl hlen) (ov_at rfl (ov_lt hlen (by decide))) (ov_at rfl (ov_lt hlen (by decide)))).up (by decide)) rfl ?_
              refine bcF_ne rfl (by decide) ?_
              refine RT_step (pc2 := 58) rfl (fun _ _ => rfl) ?_
              refine ow_gf rfl rfl rfl hlen rfl ?_
              refine RT_step (pc2 := 62) rfl (fun _ _ => rfl) ?_
              refine RT_step (pc2 := 63) rfl (fun _ _ => rfl) ?_
              refine ow_gf rfl rfl rfl hlen rfl ?_
              refine ow_iasN (l2 := ((1, tcl n lim a3 kd3 pl3 w3 le3 nu3 (Int32.ofNat v0) (Int32.ofNat 0) fp3) :: (2, bcl bs) :: [(13, dcl13 P Dn lw cl id gl bo), (14, lng (pn.set P le1)), (15, ia (ri.set P (Int32.ofNat v0))), (16, ia lf), (17, ia wa), (18, ia fo), (19, lng dn), (20, ia ha), (21, ia pa), (22, ia bl)])) rfl rfl (by omega) (by omega) hlen rfl rfl ?_
              refine RT_step (pc2 := 68) rfl (fun _ _ => rfl) ?_
              refine rt_ico rfl ki_1 ?_
              refine rt_bip rfl k8_9 ?_
              refine ow_iv1 (l2 := ((1, tcl n lim a4 kd4 pl4 w4 le4 nu4 (Int32.ofNat v1) (Int32.ofNat 0) fp4) :: (2, bcl bs) :: [(13, dcl13 P Dn lw cl id gl bo), (14, lng (pn.set P le1)), (15, ia (ri.set P (Int32.ofNat v0))), (16, ia lf), (17, ia wa), (18, ia fo), (19, lng dn), (20, ia ha), (21, ia pa), (22, ia bl)])) rfl rfl rfl rfl hlen rfl rfl rfl ((hx4 _ (ov_hl hlen) (ov_at rfl (ov_lt hlen (by decide))) (ov_at rfl (ov_lt hlen (by decide)))).up (by decide)) rfl ?_
              refine bcF_ne rfl (by decide) ?_
              refine RT_step (pc2 := 80) rfl (fun _ _ => rfl) ?_
              refine ow_gf rfl rfl rfl hlen rfl ?_
              refine RT_step (pc2 := 84) rfl (fun _ _ => rfl) ?_
              refine RT_step (pc2 := 85) rfl (fun _ _ => rfl) ?_
              refine ow_gf rfl rfl rfl hlen rfl ?_
              refine ow_iasN (l2 := ((1, tcl n lim a4 kd4 pl4 w4 le4 nu4 (Int32.ofNat v1) (Int32.ofNat 0) fp4) :: (2, bcl bs) :: [(13, dcl13 P Dn lw cl id gl bo), (14, lng (pn.set P le1)), (15, ia (ri.set P (Int32.ofNat v0))), (16, ia (lf.set P (Int32.ofNat v1))), (17, ia wa), (18, ia fo), (19, lng dn), (20, ia ha), (21, ia pa), (22, ia bl)])) rfl rfl (by omega) (by omega) hlen rfl rfl ?_
              refine RT_step (pc2 := 90) rfl (fun _ _ => rfl) ?_
              refine ow_gf rfl rfl rfl hlen rfl ?_
              refine RT_step (pc2 := 96) rfl (fun _ _ => rfl) ?_
              refine rt_acN rfl (by omega) (by omega) ?_
              refine RT_el cg ?_
              refine RT_step (pc2 := 116) rfl (fun _ _ => rfl) ?_
              refine RT_step (pc2 := 117) rfl (fun _ _ => rfl) ?_
              refine rt_ico rfl ki_1 ?_
              refine ba_iadd rfl ?_
              rw [n_add]
              refine ow_pf rfl rfl rfl rfl rfl hlen rfl rfl ?_
              refine rt_ico rfl ki_1 ?_
              exact ow_irt rfl rfl rfl
            · refine FR_st rfl rfl ?_
              refine RT_step (pc2 := 1) rfl (fun _ _ => rfl) ?_
              refine rt_ico rfl ki_0 ?_
              refine rt_bip rfl k8_7 ?_
              refine ow_iv1 (l2 := ((180, mcl (Int32.ofNat 0) (Int32.ofNat 0) n lim a1 pl1 (km kd1) nm1 sg1 (Int32.ofNat 0) qm1 wd1 td (pof pr)) :: (181, mtl ts) :: [(183, ia rd), (188, lng rn), (191, zb on)])) rfl rfl rfl rfl hlen rfl rfl rfl ((m_first_t (j := 0) (m := 7) hlen rc (by decide) c (by omega) (by omega) m1).up (by decide)) rfl ?_
              refine bcF_ne rfl (by decide) ?_
              refine RT_step (pc2 := 13) rfl (fun _ _ => rfl) ?_
              refine ow_gf rfl rfl rfl hlen rfl ?_
              refine rt_ico rfl ki_0 ?_
              refine ow_ialN rfl rfl rc (by omega) hlen rfl ?_
              refine RT_step (pc2 := 19) rfl (fun _ _ => rfl) ?_
              refine RT_step (pc2 := 20) rfl (fun _ _ => rfl) ?_
              refine RT_step (pc2 := 21) rfl (fun _ _ => rfl) ?_
              refine ow_iv1 (l2 := ((180, mcl (Int32.ofNat 0) (Int32.ofNat 0) n lim a2 pl2 (km kd2) nm2 sg2 (Int32.ofNat 0) qm2 wd2 td (pof pr)) :: (181, mtl ts) :: [(183, ia rd), (188, lng (rn.set P wd1)), (191, zb on)])) rfl rfl rfl rfl hlen rfl rfl rfl (((h P (by omega)).2 H hlen).up (by decide)) rfl ?_
              refine bcF_eq rfl (by decide) ?_
              refine RT_step (pc2 := 28) rfl (fun _ _ => rfl) ?_
              refine rt_ico rfl ki_5 ?_
              refine RT_step (pc2 := 30) rfl (fun _ _ => rfl) ?_
              refine ba_iadd rfl ?_
              rw [n_add]
              refine RT_step (pc2 := 32) rfl (fun _ _ => rfl) ?_
              refine rt_ico rfl ki_1 ?_
              refine rt_bip rfl k8_9 ?_
              refine ow_iv1 (l2 := ((180, mcl (Int32.ofNat 0) (Int32.ofNat 0) n lim a3 pl3 (km kd3) nm3 sg3 (Int32.ofNat 0) qm3 wd3 (Int32.ofNat v0) (pof pr)) :: (181, mtl ts) :: [(183, ia rd), (188, lng (rn.set P wd1)), (191, zb on)])) rfl rfl rfl rfl hlen rfl rfl rfl ((hm3 _ (ov_hl hlen) (ov_at rfl (ov_lt hlen (by decide))) (ov_at rfl (ov_lt hlen (by decide)))).up (by decide)) rfl ?_
              refine ow_iv1 (l2 := ((180, mcl (Int32.ofNat 0) (Int32.ofNat 0) n lim a3 pl3 (km kd3) nm3 sg3 (Int32.ofNat 0) qm3 wd3 (Int32.ofNat v0) (pof pr)) :: (181, mtl ts) :: [(183, ia (rd.set (5 + P) (Int32.ofNat v0))), (188, lng (rn.set P wd1)), (191, zb on)])) rfl rfl rfl rfl hlen rfl rfl rfl ((m_put_t (j := 5 + P) hlen (by omega) (by omega)).up (by decide)) rfl ?_
              refine bcF_eq rfl (by decide) ?_
              refine RT_step (pc2 := 45) rfl (fun _ _ => rfl) ?_
              refine rt_bip rfl k8_12 ?_
              refine RT_step (pc2 := 48) rfl (fun _ _ => rfl) ?_
              refine ba_iadd rfl ?_
              rw [n_add]
              refine RT_step (pc2 := 50) rfl (fun _ _ => rfl) ?_
              refine rt_ico rfl ki_1 ?_
              refine rt_bip rfl k8_9 ?_
              refine ow_iv1 (l2 := ((180, mcl (Int32.ofNat 0) (Int32.ofNat 0) n lim a4 pl4 (km kd4) nm4 sg4 (Int32.ofNat 0) qm4 wd4 (Int32.ofNat v1) (pof pr)) :: (181, mtl ts) :: [(183, ia (rd.set (5 + P) (Int32.ofNat v0))), (188, lng (rn.set P wd1)), (191, zb on)])) rfl rfl rfl rfl hlen rfl rfl rfl ((hm4 _ (ov_hl hlen) (ov_at rfl (ov_lt hlen (by decide))) (ov_at rfl (ov_lt hlen (by decide)))).up (by decide)) rfl ?_
              refine ow_iv1 (l2 := ((180, mcl (Int32.ofNat 0) (Int32.ofNat 0) n lim a4 pl4 (km kd4) nm4 sg4 (Int32.ofNat 0) qm4 wd4 (Int32.ofNat v1) (pof pr)) :: (181, mtl ts) :: [(183, ia ((rd.set (5 + P) (Int32.ofNat v0)).set (12 + P) (Int32.ofNat v1))), (188, lng (rn.set P wd1)), (191, zb on)])) rfl rfl rfl rfl hlen rfl rfl rfl ((m_put_t (j := 12 + P) hlen (by simp only [List.length_set]; omega) (by omega)).up (by decide)) rfl ?_
              refine bcF_ne rfl (by decide) ?_
              refine RT_step (pc2 := 65) rfl (fun _ _ => rfl) ?_
              refine rt_bip rfl k8_21 ?_
              refine rt_bip rfl k8_19 ?_
              refine RT_step (pc2 := 70) rfl (fun _ _ => rfl) ?_
              refine ow_iv0 (l2 := ((180, mcl (Int32.ofNat 0) (Int32.ofNat 0) n lim a4 pl4 (km kd4) nm4 sg4 (Int32.ofNat 0) qm4 wd4 (Int32.ofNat v1) (pof pr)) :: (181, mtl ts) :: [(183, ia ((rd.set (5 + P) (Int32.ofNat v0)).set (12 + P) (Int32.ofNat v1))), (188, lng (rn.set P wd1)), (191, zb on)])) rfl rfl rfl rfl hlen rfl rfl rfl ((m_flag_f (wj := 21) (row := 19) (kk := P) hlen hkm (by decide) hf0).up (by decide)) rfl ?_
              refine RT_step (pc2 := 74) rfl (fun _ _ => rfl) ?_
              refine ow_gf rfl rfl rfl hlen rfl ?_
              refine rt_ico rfl ki_0 ?_
              refine RT_step (pc2 := 79) rfl (fun _ _ => rfl) ?_
              refine ow_ialN rfl rfl rz (by omega) hlen rfl ?_
              refine rt_ico rfl ki_1 ?_
              refine ba_iadd rfl ?_
              rw [n_add]
              refine ow_iasN rfl rfl (by omega) (by omega) hlen rfl rfl ?_
              refine rt_ico rfl ki_1 ?_
              exact ow_irt rfl rfl rfl
