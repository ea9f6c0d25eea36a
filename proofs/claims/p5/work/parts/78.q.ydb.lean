theorem se13 {B : Nat → Nat} {bs ts : List Int32} {n lim : Nat} {pr : List Value} {k a kd pl w : Nat} {le : Int64} {nu tk td fp nm sg qm : Int32} {wd : Int64} {P : Nat} {Dn : Nat} {lw : Int32} {cl : Int32} {id : Int32} {gl : Nat} {bo : Nat} {pn : List Int64} {ri : List Int32} {lf : List Int32} {wa : List Int32} {fo : List Int32} {dn : List Int64} {ha : List Int32} {pa : List Int32} {bl : List Int32} {rd : List Int32} {rn : List Int64} {on : List Int32} (hB : BY bs B) (hM : MY ts B) (hb : ∀ i, B i < 256) (hn : n ≤ 940) (hl : lim ≤ 940) (t : TF k n a kd w le nu nm sg wd) (hk1 : kd = 1) (d : DR P Dn lw cl id gl bo pn ri lf wa fo dn ha pa bl rd rn on) : (∃ T M D R, FC n lim (pof pr) T M ∧ SH13 D ∧ SHR R ∧ LR bs ts 6 79 [.ref 13, .ref 1] 6 267 [.ref 180] (tcl n lim a kd pl w le nu tk (Int32.ofNat 0) fp) (mcl (Int32.ofNat 0) (Int32.ofNat 0) n lim a pl (km kd) nm sg (Int32.ofNat 0) qm wd td (pof pr)) [(13, dcl13 P Dn lw cl id gl bo), (14, lng pn), (15, ia ri), (16, ia lf), (17, ia wa), (18, ia fo), (19, lng dn), (20, ia ha), (21, ia pa), (22, ia bl)] [(183, ia rd), (188, lng rn), (191, zb on)] (.int (Int32.ofNat 0)) (.int (Int32.ofNat 0)) T M D R) ∨ (∃ tk2 td2 T M D R, TC n lim (pof pr) (k + 1) tk2 td2 T M ∧ SD13 D R ∧ LR bs ts 6 79 [.ref 13, .ref 1] 6 267 [.ref 180] (tcl n lim a kd pl w le nu tk (Int32.ofNat 0) fp) (mcl (Int32.ofNat 0) (Int32.ofNat 0) n lim a pl (km kd) nm sg (Int32.ofNat 0) qm wd td (pof pr)) [(13, dcl13 P Dn lw cl id gl bo), (14, lng pn), (15, ia ri), (16, ia lf), (17, ia wa), (18, ia fo), (19, lng dn), (20, ia ha), (21, ia pa), (22, ia bl)] [(183, ia rd), (188, lng rn), (191, zb on)] (.int (Int32.ofNat 1)) (.int (Int32.ofNat 1)) T M D R) := by
  rcases tw13 hB hM hb hn hl (pr := pr) (pl := pl) (tk := tk) (td := td) (fp := fp) (qm := qm) t hk1 d with ⟨T, M, f, h⟩ | ⟨p, q, T1, M1, hp, hq, hne, c1, h⟩
  · refine Or.inl ⟨T, M, [(13, dcl13 P Dn lw cl id gl bo), (14, lng pn), (15, ia ri), (16, ia lf), (17, ia wa), (18, ia fo), (19, lng dn), (20, ia ha), (21, ia pa), (22, ia bl)], [(183, ia rd), (188, lng rn), (191, zb on)], f, ⟨_, _, _, _, _, _, _, _, _, _, _, _, _, _, _, _, rfl⟩, ⟨_, _, _, rfl⟩, fun H hlen => ?_, fun H hlen => ?_⟩
    · refine FR_st rfl rfl ?_
      refine RT_step (pc2 := 1) rfl (fun _ _ => rfl) ?_
      refine RT_step (pc2 := 2) rfl (fun _ _ => rfl) ?_
      refine ow_iv1 (l2 := ((1, T) :: (2, bcl bs) :: [(13, dcl13 P Dn lw cl id gl bo), (14, lng pn), (15, ia ri), (16, ia lf), (17, ia wa), (18, ia fo), (19, lng dn), (20, ia ha), (21, ia pa), (22, ia bl)])) rfl rfl rfl rfl hlen rfl rfl rfl ((h.1 H hlen).up (by decide)) rfl ?_
      refine RT_step (pc2 := 6) rfl (fun _ _ => rfl) ?_
      refine RT_step (pc2 := 7) rfl (fun _ _ => rfl) ?_
      refine rt_ico rfl ki_m1 ?_
      refine biT_ne rfl rfl ?_
      refine rt_ico rfl ki_0 ?_
      exact ow_irt rfl rfl rfl
    · refine FR_st rfl rfl ?_
      refine RT_step (pc2 := 1) rfl (fun _ _ => rfl) ?_
      refine ow_iv1 (l2 := ((180, M) :: (181, mtl ts) :: [(183, ia rd), (188, lng rn), (191, zb on)])) rfl rfl rfl rfl hlen rfl rfl rfl ((h.2 H hlen).up (by decide)) rfl ?_
      refine RT_step (pc2 := 5) rfl (fun _ _ => rfl) ?_
      refine RT_step (pc2 := 6) rfl (fun _ _ => rfl) ?_
      refine rt_ico rfl ki_m1 ?_
      refine biT_ne rfl rfl ?_
      refine rt_ico rfl ki_0 ?_
      exact ow_irt rfl rfl rfl
  · obtain ⟨a1, kd1, pl1, w1, le1, nu1, fp1, nm1, sg1, qm1, wd1, rfl, rfl, t1, hk2⟩ := c1
    obtain ⟨hP, hD, ⟨l1, l2, l3, l4, l5, l6, l7, l8, l9⟩, lr, ln, lo, hN, hV, hW, o1, o2, o3⟩ := d
    obtain ⟨x, y, wx, wy, hx0, hy0, hxy, hW2⟩ := wa_sees hW hP l4 lr (p := p) (q := q) (by omega) (by omega)
    cases e : x.testBit p with
    | true =>
      obtain ⟨T, M, f, hx, hm⟩ := s_ref (bs := bs) (ts := ts) (lim := lim) (po := pof pr) (pl := pl1) (tk := tk) (td := (Int32.ofNat q)) (fp := fp1) (plM := qm1) t1 (kk := 3) (by decide) (by decide) (Or.inl (by omega))
      refine Or.inl ⟨T, M, [(13, dcl13 P Dn lw cl id gl bo), (14, lng pn), (15, ia ri), (16, ia lf), (17, ia wa), (18, ia fo), (19, lng dn), (20, ia ha), (21, ia pa), (22, ia bl)], [(183, ia rd), (188, lng rn), (191, zb on)], f, ⟨_, _, _, _, _, _, _, _, _, _, _, _, _, _, _, _, rfl⟩, ⟨_, _, _, rfl⟩, fun H hlen => ?_, fun H hlen => ?_⟩
      · refine FR_st rfl rfl ?_
        refine RT_step (pc2 := 1) rfl (fun _ _ => rfl) ?_
        refine RT_step (pc2 := 2) rfl (fun _ _ => rfl) ?_
        refine ow_iv1 (l2 := ((1, tcl n lim a1 kd1 pl1 w1 le1 nu1 tk (Int32.ofNat 0) fp1) :: (2, bcl bs) :: [(13, dcl13 P Dn lw cl id gl bo), (14, lng pn), (15, ia ri), (16, ia lf), (17, ia wa), (18, ia fo), (19, lng dn), (20, ia ha), (21, ia pa), (22, ia bl)])) rfl rfl rfl rfl hlen rfl rfl rfl ((h.1 H hlen).up (by decide)) rfl ?_
        refine RT_step (pc2 := 6) rfl (fun _ _ => rfl) ?_
        refine RT_step (pc2 := 7) rfl (fun _ _ => rfl) ?_
        refine rt_ico rfl ki_m1 ?_
        refine biF_ne rfl (n_m1 (by omega)) ?_
        refine RT_step (pc2 := 14) rfl (fun _ _ => rfl) ?_
        refine rt_bip rfl k8_7 ?_
        refine rt_div rfl (by decide) (dv7 p (by omega) q (by omega)) ?_
        refine RT_step (pc2 := 18) rfl (fun _ _ => rfl) ?_
        refine RT_step (pc2 := 19) rfl (fun _ _ => rfl) ?_
        refine rt_bip rfl k8_7 ?_
        refine rt_rem rfl (by decide) (rm7 p (by omega) q (by omega)) ?_
        refine RT_step (pc2 := 24) rfl (fun _ _ => rfl) ?_
        refine RT_step (pc2 := 25) rfl (fun _ _ => rfl) ?_
        refine ow_gf rfl rfl rfl hlen rfl ?_
        refine RT_step (pc2 := 30) rfl (fun _ _ => rfl) ?_
        refine ow_ialN rfl rfl wx (by omega) hlen rfl ?_
        refine RT_step (pc2 := 32) rfl (fun _ _ => rfl) ?_
        refine ba_iushr rfl ?_
        refine rt_ico rfl ki_1 ?_
        refine ba_iand rfl ?_
        rw [ushr_1 p (by omega) x (by omega)]
        refine rt_ico rfl ki_1 ?_
        refine biT_ne rfl (b01_1 e) ?_
        refine RT_step (pc2 := 40) rfl (fun _ _ => rfl) ?_
        refine rt_ico rfl ki_3 ?_
        refine ow_iv1 (l2 := ((1, T) :: (2, bcl bs) :: [(13, dcl13 P Dn lw cl id gl bo), (14, lng pn), (15, ia ri), (16, ia lf), (17, ia wa), (18, ia fo), (19, lng dn), (20, ia ha), (21, ia pa), (22, ia bl)])) rfl rfl rfl rfl hlen rfl rfl rfl ((hx _ (ov_hl hlen) (ov_at rfl (ov_lt hlen (by decide))) (ov_at rfl (ov_lt hlen (by decide)))).up (by decide)) rfl ?_
        exact ow_irt rfl rfl rfl
      · refine FR_st rfl rfl ?_
        refine RT_step (pc2 := 1) rfl (fun _ _ => rfl) ?_
        refine ow_iv1 (l2 := ((180, mcl (Int32.ofNat 0) (Int32.ofNat 0) n lim a1 pl1 (km kd1) nm1 sg1 (Int32.ofNat 0) qm1 wd1 (Int32.ofNat q) (pof pr)) :: (181, mtl ts) :: [(183, ia rd), (188, lng rn), (191, zb on)])) rfl rfl rfl rfl hlen rfl rfl rfl ((h.2 H hlen).up (by decide)) rfl ?_
        refine RT_step (pc2 := 5) rfl (fun _ _ => rfl) ?_
        refine RT_step (pc2 := 6) rfl (fun _ _ => rfl) ?_
        refine rt_ico rfl ki_m1 ?_
        refine biF_ne rfl (n_m1 (by omega)) ?_
        refine RT_step (pc2 := 13) rfl (fun _ _ => rfl) ?_
        refine ow_gf rfl rfl rfl hlen rfl ?_
        refine rt_bip rfl k8_45 ?_
        refine RT_step (pc2 := 19) rfl (fun _ _ => rfl) ?_
        refine ba_iadd rfl ?_
        rw [n_add]
        refine ow_ialN rfl rfl wy (by omega) hlen rfl ?_
        refine RT_step (pc2 := 22) rfl (fun _ _ => rfl) ?_
        refine ow_gf rfl rfl rfl hlen rfl ?_
        refine ow_is1 rfl rfl rfl rfl rfl ((m_has (x := y) (k := q) (by omega) (by omega)).up (by decide)) rfl ?_
        refine bcF_eq rfl (b01_t (hxy.symm.trans e)) ?_
        refine RT_step (pc2 := 32) rfl (fun _ _ => rfl) ?_
        refine rt_ico rfl ki_3 ?_
        refine ow_iv1 (l2 := ((180, M) :: (181, mtl ts) :: [(183, ia rd), (188, lng rn), (191, zb on)])) rfl rfl rfl rfl hlen rfl rfl rfl ((hm _ (ov_hl hlen) (ov_at rfl (ov_lt hlen (by decide))) (ov_at rfl (ov_lt hlen (by decide)))).up (by decide)) rfl ?_
        exact ow_irt rfl rfl rfl
    | false =>
      obtain ⟨T2, M2, c2, x2, m2⟩ := s_adv hB hM hb hn hl (po := pof pr) (pl := pl1) (tk := tk) (td := (Int32.ofNat q)) (fp := fp1) (plM := qm1) t1 (by omega) (by omega)
      refine Or.inr ⟨tk, (Int32.ofNat q), T2, M2, [(13, dcl13 P Dn lw cl id gl bo), (14, lng pn), (15, ia ri), (16, ia lf), (17, ia (wa.set q (Int32.ofNat (x ||| 2 ^ p)))), (18, ia fo), (19, lng dn), (20, ia ha), (21, ia pa), (22, ia bl)], [(183, ia (rd.set (45 + p) (Int32.ofNat (y ||| 2 ^ q)))), (188, lng rn), (191, zb on)], tc_mono c2 (by omega), ⟨_, _, _, _, _, _, _, _, _, _, _, _, _, _, _, _, _, _, _, rfl, rfl, ⟨hP, hD, ⟨l1, l2, l3, by rw [List.length_set]; exact l4, l5, l6, l7, l8, l9⟩, by rw [List.length_set]; exact lr, ln, lo, hN, vr_o hV hP hD (Or.inr ⟨by omega, by omega⟩), hW2, oc_set o1 (by omega), oc_set o2 (by omega), oc_set o3 (by omega)⟩⟩, fun H hlen => ?_, fun H hlen => ?_⟩
      · refine FR_st rfl rfl ?_
        refine RT_step (pc2 := 1) rfl (fun _ _ => rfl) ?_
        refine RT_step (pc2 := 2) rfl (fun _ _ => rfl) ?_
        refine ow_iv1 (l2 := ((1, tcl n lim a1 kd1 pl1 w1 le1 nu1 tk (Int32.ofNat 0) fp1) :: (2, bcl bs) :: [(13, dcl13 P Dn lw cl id gl bo), (14, lng pn), (15, ia ri), (16, ia lf), (17, ia wa), (18, ia fo), (19, lng dn), (20, ia ha), (21, ia pa), (22, ia bl)])) rfl rfl rfl rfl hlen rfl rfl rfl ((h.1 H hlen).up (by decide)) rfl ?_
        refine RT_step (pc2 := 6) rfl (fun _ _ => rfl) ?_
        refine RT_step (pc2 := 7) rfl (fun _ _ => rfl) ?_
        refine rt_ico rfl ki_m1 ?_
        refine biF_ne rfl (n_m1 (by omega)) ?_
        refine RT_step (pc2 := 14) rfl (fun _ _ => rfl) ?_
        refine rt_bip rfl k8_7 ?_
        refine rt_div rfl (by decide) (dv7 p (by omega) q (by omega)) ?_
        refine RT_step (pc2 := 18) rfl (fun _ _ => rfl) ?_
        refine RT_step (pc2 := 19) rfl (fun _ _ => rfl) ?_
        refine rt_bip rfl k8_7 ?_
        refine rt_rem rfl (by decide) (rm7 p (by omega) q (by omega)) ?_
        refine RT_step (pc2 := 24) rfl (fun _ _ => rfl) ?_
        refine RT_step (pc2 := 25) rfl (fun _ _ => rfl) ?_
        refine ow_gf rfl rfl rfl hlen rfl ?_
        refine RT_step (pc2 := 30) rfl (fun _ _ => rfl) ?_
        refine ow_ialN rfl rfl wx (by omega) hlen rfl ?_
        refine RT_step (pc2 := 32) rfl (fun _ _ => rfl) ?_
        refine ba_iushr rfl ?_
        refine rt_ico rfl ki_1 ?_
        refine ba_iand rfl ?_
        rw [ushr_1 p (by omega) x (by omega)]
        refine rt_ico rfl ki_1 ?_
        refine biF_ne rfl (b01_0 e) ?_
        refine RT_step (pc2 := 46) rfl (fun _ _ => rfl) ?_
        refine ow_gf rfl rfl rfl hlen rfl ?_
        refine RT_step (pc2 := 51) rfl (fun _ _ => rfl) ?_
        refine RT_step (pc2 := 52) rfl (fun _ _ => rfl) ?_
        refine ow_ialN rfl rfl wx (by omega) hlen rfl ?_
        refine rt_ico rfl ki_1 ?_
        refine RT_step (pc2 := 55) rfl (fun _ _ => rfl) ?_
        refine ba_ishl rfl ?_
        refine ba_ior rfl ?_
        rw [or_1 p (by omega) x (by omega)]
        refine ow_iasN rfl rfl (by omega) (by omega) hlen rfl rfl ?_
        refine RT_step (pc2 := 59) rfl (fun _ _ => rfl) ?_
        refine ow_iv0 (l2 := ((1, T2) :: (2, bcl bs) :: [(13, dcl13 P Dn lw cl id gl bo), (14, lng pn), (15, ia ri), (16, ia lf), (17, ia (wa.set q (Int32.ofNat (x ||| 2 ^ p)))), (18, ia fo), (19, lng dn), (20, ia ha), (21, ia pa), (22, ia bl)])) rfl rfl rfl rfl hlen rfl rfl rfl ((x2 _ (ov_hl hlen) (ov_at rfl (ov_lt hlen (by decide))) (ov_at rfl (ov_lt hlen (by decide)))).up (by decide)) rfl ?_
        refine rt_ico rfl ki_1 ?_
        exact ow_irt rfl rfl rfl
      · refine FR_st rfl rfl ?_
        refine RT_step (pc2 := 1) rfl (fun _ _ => rfl) ?_
        refine ow_iv1 (l2 := ((180, mcl (Int32.ofNat 0) (Int32.ofNat 0) n lim a1 pl1 (km kd1) nm1 sg1 (Int32.ofNat 0) qm1 wd1 (Int32.ofNat q) (pof pr)) :: (181, mtl ts) :: [(183, ia rd), (188, lng rn), (191, zb on)])) rfl rfl rfl rfl hlen rfl rfl rfl ((h.2 H hlen).up (by decide)) rfl ?_
        refine RT_step (pc2 := 5) rfl (fun _ _ => rfl) ?_
        refine RT_step (pc2 := 6) rfl (fun _ _ => rfl) ?_
        refine rt_ico rfl ki_m1 ?_
        refine biF_ne rfl (n_m1 (by omega)) ?_
        refine RT_step (pc2 := 13) rfl (fun _ _ => rfl) ?_
        refine ow_gf rfl rfl rfl hlen rfl ?_
        refine rt_bip rfl k8_45 ?_
        refine RT_step (pc2 := 19) rfl (fun _ _ => rfl) ?_
        refine ba_iadd rfl ?_
        rw [n_add]
        refine ow_ialN rfl rfl wy (by omega) hlen rfl ?_
        refine RT_step (pc2 := 22) rfl (fun _ _ => rfl) ?_
        refine ow_gf rfl rfl rfl hlen rfl ?_
        refine ow_is1 rfl rfl rfl rfl rfl ((m_has (x := y) (k := q) (by omega) (by omega)).up (by decide)) rfl ?_
        refine bcT_eq rfl (b01_f (hxy.symm.trans e)) ?_
        refine RT_step (pc2 := 38) rfl (fun _ _ => rfl) ?_
        refine ow_gf rfl rfl rfl hlen rfl ?_
        refine rt_bip rfl k8_45 ?_
        refine RT_step (pc2 := 44) rfl (fun _ _ => rfl) ?_
        refine ba_iadd rfl ?_
        rw [n_add]
        refine RT_step (pc2 := 46) rfl (fun _ _ => rfl) ?_
        refine ow_ialN rfl rfl wy (by omega) hlen rfl ?_
        refine rt_ico rfl ki_1 ?_
        refine RT_step (pc2 := 49) rfl (fun _ _ => rfl) ?_
        refine ow_gf rfl rfl rfl hlen rfl ?_
        refine ba_ishl rfl ?_
        refine ba_ior rfl ?_
        rw [or_1 q (by omega) y (by omega)]
        refine ow_iasN rfl rfl (by omega) (by omega) hlen rfl rfl ?_
        refine RT_step (pc2 := 56) rfl (fun _ _ => rfl) ?_
        refine ow_iv0 (l2 := ((180, M2) :: (181, mtl ts) :: [(183, ia (rd.set (45 + p) (Int32.ofNat (y ||| 2 ^ q)))), (188, lng rn), (191, zb on)])) rfl rfl rfl rfl hlen rfl rfl rfl ((m2 _ (ov_hl hlen) (ov_at rfl (ov_lt hlen (by decide))) (ov_at rfl (ov_lt hlen (by decide)))).up (by decide)) rfl ?_
        refine rt_ico rfl ki_1 ?_
        exact ow_irt rfl rfl rfl
theorem fo13 {B : Nat → Nat} {bs ts : List Int32} {n lim : Nat} {pr : List Value} {k a kd pl w : Nat} {le : Int64} {nu tk td fp nm sg qm : Int32} {wd : Int64} {P : Nat} {Dn : Nat} {lw : Int32} {cl : Int32} {id : Int32} {gl : Nat} {bo : Nat} {pn : List Int64} {ri : List Int32} {lf : List Int32} {wa : List Int32} {fo : List Int32} {dn : List Int64} {ha : List Int32} {pa : List Int32} {bl : List Int32} {rd : List Int32} {rn : List Int64} {on : List Int32} (hB : BY bs B) (hM : MY ts B) (hb : ∀ i, B i < 256) (hn : n ≤ 940) (hl : lim ≤ 940) (t : TF k n a kd w le nu nm sg wd) (hk1 : kd = 1) (d : DR P Dn lw cl id gl bo pn ri lf wa fo dn ha pa bl rd rn on) : (∃ T M D R, FC n lim (pof pr) T M ∧ SH13 D ∧ SHR R ∧ LR bs ts 6 75 [.ref 13, .ref 1] 6 254 [.ref 180] (tcl n lim a kd pl w le nu tk (Int32.ofNat 0) fp) (mcl (Int32.ofNat 0) (Int32.ofNat 0) n lim a pl (km kd) nm sg (Int32.ofNat 0) qm wd td (pof pr)) [(13, dcl13 P Dn lw cl id gl bo), (14, lng pn), (15, ia ri), (16, ia lf), (17, ia wa), (18, ia fo), (19, lng dn), (20, ia ha), (21, ia pa), (22, ia bl)] [(183, ia rd), (188, lng rn), (191, zb on)] (.int (Int32.ofNat 0)) (.int (Int32.ofNat 0)) T M D R) ∨ (∃ tk2 td2 T M D R, TC n lim (pof pr) (k + 1) tk2 td2 T M ∧ SD13 D R ∧ LR bs ts 6 75 [.ref 13, .ref 1] 6 254 [.ref 180] (tcl n lim a kd pl w le nu tk (Int32.ofNat 0) fp) (mcl (Int32.ofNat 0) (Int32.ofNat 0) n lim a pl (km kd) nm sg (Int32.ofNat 0) qm wd td (pof pr)) [(13, dcl13 P Dn lw cl id gl bo), (14, lng pn), (15, ia ri), (16, ia lf), (17, ia wa), (18, ia fo), (19, lng dn), (20, ia ha), (21, ia pa), (22, ia bl)] [(183, ia rd), (188, lng rn), (191, zb on)] (.int (Int32.ofNat 1)) (.int (Int32.ofNat 1)) T M D R) := by
  rcases tw13 hB hM hb hn hl (pr := pr) (pl := pl) (tk := tk) (td := td) (fp := fp) (qm := qm) t hk1 d with ⟨T, M, f, h⟩ | ⟨p, q, T1, M1, hp, hq, hne, c1, h⟩
  · refine Or.inl ⟨T, M, [(13, dcl13 P Dn lw cl id gl bo), (14, lng pn), (15, ia ri), (16, ia lf), (17, ia wa), (18, ia fo), (19, lng dn), (20, ia ha), (21, ia pa), (22, ia bl)], [(183, ia rd), (188, lng rn), (191, zb on)], f, ⟨_, _, _, _, _, _, _, _, _, _, _, _, _, _, _, _, rfl⟩, ⟨_, _, _, rfl⟩, fun H hlen => ?_, fun H hlen => ?_⟩
    · refine FR_st rfl rfl ?_
      refine RT_step (pc2 := 1) rfl (fun _ _ => rfl) ?_
      refine RT_step (pc2 := 2) rfl (fun _ _ => rfl) ?_
      refine ow_iv1 (l2 := ((1, T) :: (2, bcl bs) :: [(13, dcl13 P Dn lw cl id gl bo), (14, lng pn), (15, ia ri), (16, ia lf), (17, ia wa), (18, ia fo), (19, lng dn), (20, ia ha), (21, ia pa), (22, ia bl)])) rfl rfl rfl rfl hlen rfl rfl rfl ((h.1 H hlen).up (by decide)) rfl ?_
      refine RT_step (pc2 := 6) rfl (fun _ _ => rfl) ?_
      refine RT_step (pc2 := 7) rfl (fun _ _ => rfl) ?_
      refine rt_ico rfl ki_m1 ?_
      refine biT_ne rfl rfl ?_
      refine rt_ico rfl ki_0 ?_
      exact ow_irt rfl rfl rfl
    · refine FR_st rfl rfl ?_
      refine RT_step (pc2 := 1) rfl (fun _ _ => rfl) ?_
      refine ow_iv1 (l2 := ((180, M) :: (181, mtl ts) :: [(183, ia rd), (188, lng rn), (191, zb on)])) rfl rfl rfl rfl hlen rfl rfl rfl ((h.2 H hlen).up (by decide)) rfl ?_
      refine RT_step (pc2 := 5) rfl (fun _ _ => rfl) ?_
      refine RT_step (pc2 := 6) rfl (fun _ _ => rfl) ?_
      refine rt_ico rfl ki_m1 ?_
      refine biT_ne rfl rfl ?_
      refine rt_ico rfl ki_0 ?_
      exact ow_irt rfl rfl rfl
  · obtain ⟨a1, kd1, pl1, w1, le1, nu1, fp1, nm1, sg1, qm1, wd1, rfl, rfl, t1, hk2⟩ := c1
    obtain ⟨hP, hD, ⟨l1, l2, l3, l4, l5, l6, l7, l8, l9⟩, lr, ln, lo, hN, hV, hW, o1, o2, o3⟩ := d
    have hi : p * 7 + q < 49 := by omega
    have f1 : fo[p * 7 + q]? = some fo[p * 7 + q] := gd_i (by omega)
    have f2 := (hV.2.2.2.2.2.2.2.2 (p * 7 + q) hi).symm.trans f1
    generalize fo[p * 7 + q] = fv at f1 f2
    by_cases e : fv = 0
    · obtain ⟨T2, M2, c2, x2, m2⟩ := s_adv hB hM hb hn hl (po := pof pr) (pl := pl1) (tk := tk) (td := (Int32.ofNat q)) (fp := fp1) (plM := qm1) t1 (by omega) (by omega)
      obtain ⟨a2, kd2, pl2, w2, le2, nu2, fp2, nm2, sg2, qm2, wd2, rfl, rfl, t2⟩ := c2
      rcases s_num hB hM hb hn hl (po := pof pr) (pl := pl2) (tk := tk) (td := (Int32.ofNat q)) (fp := fp2) (plM := qm2) t2 (lo := 1) (hi := 9) (by decide) (by decide) with ⟨T, M, f, hx, hm⟩ | ⟨v, T3, M3, v1, v2, c3, hx, hm⟩
      · have f0 := f
        obtain ⟨a9, kd9, pl9, w9, le9, nu9, tk9, kk9, am9, fm9, kM9, nm9, sg9, fa9, qm9, wd9, td9, rfl, rfl, -⟩ := f
        refine Or.inl ⟨tcl n lim a9 kd9 pl9 w9 le9 nu9 tk9 (Int32.ofNat kk9) (Int32.ofNat pl9), mcl (Int32.ofNat 0) (Int32.ofNat 0) n lim am9 fm9 kM9 nm9 sg9 fa9 qm9 wd9 td9 (pof pr), [(13, dcl13 P Dn lw cl id gl bo), (14, lng pn), (15, ia ri), (16, ia lf), (17, ia wa), (18, ia fo), (19, lng dn), (20, ia ha), (21, ia pa), (22, ia bl)], [(183, ia rd), (188, lng rn), (191, zb on)], f0, ⟨_, _, _, _, _, _, _, _, _, _, _, _, _, _, _, _, rfl⟩, ⟨_, _, _, rfl⟩, fun H hlen => ?_, fun H hlen => ?_⟩
        · refine FR_st rfl rfl ?_
          refine RT_step (pc2 := 1) rfl (fun _ _ => rfl) ?_
          refine RT_step (pc2 := 2) rfl (fun _ _ => rfl) ?_
          refine ow_iv1 (l2 := ((1, tcl n lim a1 kd1 pl1 w1 le1 nu1 tk (Int32.ofNat 0) fp1) :: (2, bcl bs) :: [(13, dcl13 P Dn lw cl id gl bo), (14, lng pn), (15, ia ri), (16, ia lf), (17, ia wa), (18, ia fo), (19, lng dn), (20, ia ha), (21, ia pa), (22, ia bl)])) rfl rfl rfl rfl hlen rfl rfl rfl ((h.1 H hlen).up (by decide)) rfl ?_
          refine RT_step (pc2 := 6) rfl (fun _ _ => rfl) ?_
          refine RT_step (pc2 := 7) rfl (fun _ _ => rfl) ?_
          refine rt_ico rfl ki_m1 ?_
          refine biF_ne rfl (n_m1 (by omega)) ?_
          refine RT_step (pc2 := 14) rfl (fun _ _ => rfl) ?_
          refine ow_gf rfl rfl rfl hlen rfl ?_
          refine RT_step (pc2 := 18) rfl (fun _ _ => rfl) ?_
          refine ow_ialN rfl rfl f1 (by omega) hlen rfl ?_
          refine bcT_eq rfl e ?_
          refine RT_step (pc2 := 29) rfl (fun _ _ => rfl) ?_
          refine ow_iv0 (l2 := ((1, tcl n lim a2 kd2 pl2 w2 le2 nu2 tk (Int32.ofNat 0) fp2) :: (2, bcl bs) :: [(13, dcl13 P Dn lw cl id gl bo), (14, lng pn), (15, ia ri), (16, ia lf), (17, ia wa), (18, ia fo), (19, lng dn), (20, ia ha), (21, ia pa), (22, ia bl)])) rfl rfl rfl rfl hlen rfl rfl rfl ((x2 _ (ov_hl hlen) (ov_at rfl (ov_lt hlen (by decide))) (ov_at rfl (ov_lt hlen (by decide)))).up (by decide)) rfl ?_
          refine RT_step (pc2 := 33) rfl (fun _ _ => rfl) ?_
          refine rt_ico rfl ki_1 ?_
          refine rt_bip rfl k8_9 ?_
          refine ow_iv1 (l2 := ((1, tcl n lim a9 kd9 pl9 w9 le9 nu9 tk9 (Int32.ofNat kk9) (Int32.ofNat pl9)) :: (2, bcl bs) :: [(13, dcl13 P Dn lw cl id gl bo), (14, lng pn), (15, ia ri), (16, ia lf), (17, ia wa), (18, ia fo), (19, lng dn), (20, ia ha), (21, ia pa), (22, ia bl)])) rfl rfl rfl rfl hlen rfl rfl rfl ((hx _ (ov_hl hlen) (ov_at rfl (ov_lt hlen (by decide))) (ov_at rfl (ov_lt hlen (by decide)))).up (by decide)) rfl ?_
          refine bcT_ne rfl rfl ?_
          refine rt_ico rfl ki_0 ?_
          exact ow_irt rfl rfl rfl
        · refine FR_st rfl rfl ?_
          refine RT_step (pc2 := 1) rfl (fun _ _ => rfl) ?_
          refine ow_iv1 (l2 := ((180, mcl (Int32.ofNat 0) (Int32.ofNat 0) n lim a1 pl1 (km kd1) nm1 sg1 (Int32.ofNat 0) qm1 wd1 (Int32.ofNat q) (pof pr)) :: (181, mtl ts) :: [(183, ia rd), (188, lng rn), (191, zb on)])) rfl rfl rfl rfl hlen rfl rfl rfl ((h.2 H hlen).up (by decide)) rfl ?_
          refine RT_step (pc2 := 5) rfl (fun _ _ => rfl) ?_
          refine RT_step (pc2 := 6) rfl (fun _ _ => rfl) ?_
          refine rt_ico rfl ki_m1 ?_
          refine biF_ne rfl (n_m1 (by omega)) ?_
          refine rt_bip rfl k8_52 ?_
          refine rt_bip rfl k8_7 ?_
          refine RT_step (pc2 := 17) rfl (fun _ _ => rfl) ?_
          refine ba_imul rfl ?_
          refine ba_iadd rfl ?_
          refine RT_step (pc2 := 20) rfl (fun _ _ => rfl) ?_
          refine ow_gf rfl rfl rfl hlen rfl ?_
          refine ba_iadd rfl ?_
          rw [ix_f]
          refine RT_step (pc2 := 25) rfl (fun _ _ => rfl) ?_
          refine RT_step (pc2 := 26) rfl (fun _ _ => rfl) ?_
          refine ow_gf rfl rfl rfl hlen rfl ?_
          refine RT_step (pc2 := 30) rfl (fun _ _ => rfl) ?_
          refine ow_ialN rfl rfl f2 (by omega) hlen rfl ?_
          refine bcT_eq rfl e ?_
          refine RT_step (pc2 := 41) rfl (fun _ _ => rfl) ?_
          refine ow_iv0 (l2 := ((180, mcl (Int32.ofNat 0) (Int32.ofNat 0) n lim a2 pl2 (km kd2) nm2 sg2 (Int32.ofNat 0) qm2 wd2 (Int32.ofNat q) (pof pr)) :: (181, mtl ts) :: [(183, ia rd), (188, lng rn), (191, zb on)])) rfl rfl rfl rfl hlen rfl rfl rfl ((m2 _ (ov_hl hlen) (ov_at rfl (ov_lt hlen (by decide))) (ov_at rfl (ov_lt hlen (by decide)))).up (by decide)) rfl ?_
          refine RT_step (pc2 := 45) rfl (fun _ _ => rfl) ?_
          refine RT_step (pc2 := 46) rfl (fun _ _ => rfl) ?_
          refine RT_step (pc2 := 47) rfl (fun _ _ => rfl) ?_
          refine rt_ico rfl ki_1 ?_
          refine rt_bip rfl k8_9 ?_
          refine ow_iv1 (l2 := ((180, mcl (Int32.ofNat 0) (Int32.ofNat 0) n lim am9 fm9 kM9 nm9 sg9 fa9 qm9 wd9 td9 (pof pr)) :: (181, mtl ts) :: [(183, ia rd), (188, lng rn), (191, zb on)])) rfl rfl rfl rfl hlen rfl rfl rfl ((hm _ (ov_hl hlen) (ov_at rfl (ov_lt hlen (by decide))) (ov_at rfl (ov_lt hlen (by decide)))).up (by decide)) rfl ?_
          refine ow_iv1 (l2 := ((180, mcl (Int32.ofNat 0) (Int32.ofNat 0) n lim am9 fm9 kM9 nm9 sg9 fa9 qm9 wd9 td9 (pof pr)) :: (181, mtl ts) :: [(183, ia rd), (188, lng rn), (191, zb on)])) rfl rfl rfl rfl hlen rfl rfl rfl (m_put_f.up (by decide)) rfl ?_
          exact ow_irt rfl rfl rfl
      · obtain ⟨a3, kd3, pl3, w3, le3, nu3, fp3, nm3, sg3, qm3, wd3, rfl, rfl, t3⟩ := c3
        refine Or.inr ⟨(Int32.ofNat v), (Int32.ofNat v), tcl n lim a3 kd3 pl3 w3 le3 nu3 (Int32.ofNat v) (Int32.ofNat 0) fp3, mcl (Int32.ofNat 0) (Int32.ofNat 0) n lim a3 pl3 (km kd3) nm3 sg3 (Int32.ofNat 0) qm3 wd3 (Int32.ofNat v) (pof pr), [(13, dcl13 P Dn lw cl id gl bo), (14, lng pn), (15, ia ri), (16, ia lf), (17, ia wa), (18, ia (fo.set (p * 7 + q) (Int32.ofNat v))), (19, lng dn), (20, ia ha), (21, ia pa), (22, ia bl)], [(183, ia (rd.set (52 + (p * 7 + q)) (Int32.ofNat v))), (188, lng rn), (191, zb on)], tc_mono (tf_td t3) (by omega), ⟨_, _, _, _, _, _, _, _, _, _, _, _, _, _, _, _, _, _, _, rfl, rfl, ⟨hP, hD, ⟨l1, l2, l3, l4, by rw [List.length_set]; exact l5, l6, l7, l8, l9⟩, by rw [List.length_set]; exact lr, ln, lo, hN, vr_f hV hP hD hi l5 lr, wa_set hW (Or.inr (by omega)), oc_set o1 (by omega), oc_set o2 (by omega), oc_set o3 (by omega)⟩⟩, fun H hlen => ?_, fun H hlen => ?_⟩
        · refine FR_st rfl rfl ?_
          refine RT_step (pc2 := 1) rfl (fun _ _ => rfl) ?_
          refine RT_step (pc2 := 2) rfl (fun _ _ => rfl) ?_
          refine ow_iv1 (l2 := ((1, tcl n lim a1 kd1 pl1 w1 le1 nu1 tk (Int32.ofNat 0) fp1) :: (2, bcl bs) :: [(13, dcl13 P Dn lw cl id gl bo), (14, lng pn), (15, ia ri), (16, ia lf), (17, ia wa), (18, ia fo), (19, lng dn), (20, ia ha), (21, ia pa), (22, ia bl)])) rfl rfl rfl rfl hlen rfl rfl rfl ((h.1 H hlen).up (by decide)) rfl ?_
          refine RT_step (pc2 := 6) rfl (fun _ _ => rfl) ?_
          refine RT_step (pc2 := 7) rfl (fun _ _ => rfl) ?_
          refine rt_ico rfl ki_m1 ?_
          refine biF_ne rfl (n_m1 (by omega)) ?_
          refine RT_step (pc2 := 14) rfl (fun _ _ => rfl) ?_
          refine ow_gf rfl rfl rfl hlen rfl ?_
          refine RT_step (pc2 := 18) rfl (fun _ _ => rfl) ?_
          refine ow_ialN rfl rfl f1 (by omega) hlen rfl ?_
          refine bcT_eq rfl e ?_
          refine RT_step (pc2 := 29) rfl (fun _ _ => rfl) ?_
          refine ow_iv0 (l2 := ((1, tcl n lim a2 kd2 pl2 w2 le2 nu2 tk (Int32.ofNat 0) fp2) :: (2, bcl bs) :: [(13, dcl13 P Dn lw cl id gl bo), (14, lng pn), (15, ia ri), (16, ia lf), (17, ia wa), (18, ia fo), (19, lng dn), (20, ia ha), (21, ia pa), (22, ia bl)])) rfl rfl rfl rfl hlen rfl rfl rfl ((x2 _ (ov_hl hlen) (ov_at rfl (ov_lt hlen (by decide))) (ov_at rfl (ov_lt hlen (by decide)))).up (by decide)) rfl ?_
          refine RT_step (pc2 := 33) rfl (fun _ _ => rfl) ?_
          refine rt_ico rfl ki_1 ?_
          refine rt_bip rfl k8_9 ?_
          refine ow_iv1 (l2 := ((1, tcl n lim a3 kd3 pl3 w3 le3 nu3 (Int32.ofNat v) (Int32.ofNat 0) fp3) :: (2, bcl bs) :: [(13, dcl13 P Dn lw cl id gl bo), (14, lng pn), (15, ia ri), (16, ia lf), (17, ia wa), (18, ia fo), (19, lng dn), (20, ia ha), (21, ia pa), (22, ia bl)])) rfl rfl rfl rfl hlen rfl rfl rfl ((hx _ (ov_hl hlen) (ov_at rfl (ov_lt hlen (by decide))) (ov_at rfl (ov_lt hlen (by decide)))).up (by decide)) rfl ?_
          refine bcF_ne rfl (by decide) ?_
          refine RT_step (pc2 := 45) rfl (fun _ _ => rfl) ?_
          refine ow_gf rfl rfl rfl hlen rfl ?_
          refine RT_step (pc2 := 49) rfl (fun _ _ => rfl) ?_
          refine RT_step (pc2 := 50) rfl (fun _ _ => rfl) ?_
          refine ow_gf rfl rfl rfl hlen rfl ?_
          refine ow_iasN rfl rfl (by omega) (by omega) hlen rfl rfl ?_
          refine rt_ico rfl ki_1 ?_
          exact ow_irt rfl rfl rfl
        · refine FR_st rfl rfl ?_
          refine RT_step (pc2 := 1) rfl (fun _ _ => rfl) ?_
          refine ow_iv1 (l2 := ((180, mcl (Int32.ofNat 0) (Int32.ofNat 0) n lim a1 pl1 (km kd1) nm1 sg1 (Int32.ofNat 0) qm1 wd1 (Int32.ofNat q) (pof pr)) :: (181, mtl ts) :: [(183, ia rd), (188, lng rn), (191, zb on)])) rfl rfl rfl rfl hlen rfl rfl rfl ((h.2 H hlen).up (by decide)) rfl ?_
          refine RT_step (pc2 := 5) rfl (fun _ _ => rfl) ?_
          refine RT_step (pc2 := 6) rfl (fun _ _ => rfl) ?_
          refine rt_ico rfl ki_m1 ?_
          refine biF_ne rfl (n_m1 (by omega)) ?_
          refine rt_bip rfl k8_52 ?_
          refine rt_bip rfl k8_7 ?_
          refine RT_step (pc2 := 17) rfl (fun _ _ => rfl) ?_
          refine ba_imul rfl ?_
          refine ba_iadd rfl ?_
          refine RT_step (pc2 := 20) rfl (fun _ _ => rfl) ?_
          refine ow_gf rfl rfl rfl hlen rfl ?_
          refine ba_iadd rfl ?_
          rw [ix_f]
          refine RT_step (pc2 := 25) rfl (fun _ _ => rfl) ?_
          refine RT_step (pc2 := 26) rfl (fun _ _ => rfl) ?_
          refine ow_gf rfl rfl rfl hlen rfl ?_
          refine RT_step (pc2 := 30) rfl (fun _ _ => rfl) ?_
          refine ow_ialN rfl rfl f2 (by omega) hlen rfl ?_
          refine bcT_eq rfl e ?_
          refine RT_step (pc2 := 41) rfl (fun _ _ => rfl) ?_
          refine ow_iv0 (l2 := ((180, mcl (Int32.ofNat 0) (Int32.ofNat 0) n lim a2 pl2 (km kd2) nm2 sg2 (Int32.ofNat 0) qm2 wd2 (Int32.ofNat q) (pof pr)) :: (181, mtl ts) :: [(183, ia rd), (188, lng rn), (191, zb on)])) rfl rfl rfl rfl hlen rfl rfl rfl ((m2 _ (ov_hl hlen) (ov_at rfl (ov_lt hlen (by decide))) (ov_at rfl (ov_lt hlen (by decide)))).up (by decide)) rfl ?_
          refine RT_step (pc2 := 45) rfl (fun _ _ => rfl) ?_
          refine RT_step (pc2 := 46) rfl (fun _ _ => rfl) ?_
          refine RT_step (pc2 := 47) rfl (fun _ _ => rfl) ?_
          refine rt_ico rfl ki_1 ?_
          refine rt_bip rfl k8_9 ?_
          refine ow_iv1 (l2 := ((180, mcl (Int32.ofNat 0) (Int32.ofNat 0) n lim a3 pl3 (km kd3) nm3 sg3 (Int32.ofNat 0) qm3 wd3 (Int32.ofNat v) (pof pr)) :: (181, mtl ts) :: [(183, ia rd), (188, lng rn), (191, zb on)])) rfl rfl rfl rfl hlen rfl rfl rfl ((hm _ (ov_hl hlen) (ov_at rfl (ov_lt hlen (by decide))) (ov_at rfl (ov_lt hlen (by decide)))).up (by decide)) rfl ?_
          refine ow_iv1 (l2 := ((180, mcl (Int32.ofNat 0) (Int32.ofNat 0) n lim a3 pl3 (km kd3) nm3 sg3 (Int32.ofNat 0) qm3 wd3 (Int32.ofNat v) (pof pr)) :: (181, mtl ts) :: [(183, ia (rd.set (52 + (p * 7 + q)) (Int32.ofNat v))), (188, lng rn), (191, zb on)])) rfl rfl rfl rfl hlen rfl rfl rfl ((m_put_t (j := 52 + (p * 7 + q)) hlen (by omega) (by omega)).up (by decide)) rfl ?_
          exact ow_irt rfl rfl rfl
    · obtain ⟨T, M, f, hx, hm⟩ := s_ref (bs := bs) (ts := ts) (lim := lim) (po := pof pr) (pl := pl1) (tk := tk) (td := (Int32.ofNat q)) (fp := fp1) (plM := qm1) t1 (kk := 3) (by decide) (by decide) (Or.inl (by omega))
      refine Or.inl ⟨T, M, [(13, dcl13 P Dn lw cl id gl bo), (14, lng pn), (15, ia ri), (16, ia lf), (17, ia wa), (18, ia fo), (19, lng dn), (20, ia ha), (21, ia pa), (22, ia bl)], [(183, ia rd), (188, lng rn), (191, zb on)], f, ⟨_, _, _, _, _, _, _, _, _, _, _, _, _, _, _, _, rfl⟩, ⟨_, _, _, rfl⟩, fun H hlen => ?_, fun H hlen => ?_⟩
      · refine FR_st rfl rfl ?_
        refine RT_step (pc2 := 1) rfl (fun _ _ => rfl) ?_
        refine RT_step (pc2 := 2) rfl (fun _ _ => rfl) ?_
        refine ow_iv1 (l2 := ((1, tcl n lim a1 kd1 pl1 w1 le1 nu1 tk (Int32.ofNat 0) fp1) :: (2, bcl bs) :: [(13, dcl13 P Dn lw cl id gl bo), (14, lng pn), (15, ia ri), (16, ia lf), (17, ia wa), (18, ia fo), (19, lng dn), (20, ia ha), (21, ia pa), (22, ia bl)])) rfl rfl rfl rfl hlen rfl rfl rfl ((h.1 H hlen).up (by decide)) rfl ?_
        refine RT_step (pc2 := 6) rfl (fun _ _ => rfl) ?_
        refine RT_step (pc2 := 7) rfl (fun _ _ => rfl) ?_
        refine rt_ico rfl ki_m1 ?_
        refine biF_ne rfl (n_m1 (by omega)) ?_
        refine RT_step (pc2 := 14) rfl (fun _ _ => rfl) ?_
        refine ow_gf rfl rfl rfl hlen rfl ?_
        refine RT_step (pc2 := 18) rfl (fun _ _ => rfl) ?_
        refine ow_ialN rfl rfl f1 (by omega) hlen rfl ?_
        refine bcF_eq rfl e ?_
        refine RT_step (pc2 := 23) rfl (fun _ _ => rfl) ?_
        refine rt_ico rfl ki_3 ?_
        refine ow_iv1 (l2 := ((1, T) :: (2, bcl bs) :: [(13, dcl13 P Dn lw cl id gl bo), (14, lng pn), (15, ia ri), (16, ia lf), (17, ia wa), (18, ia fo), (19, lng dn), (20, ia ha), (21, ia pa), (22, ia bl)])) rfl rfl rfl rfl hlen rfl rfl rfl ((hx _ (ov_hl hlen) (ov_at rfl (ov_lt hlen (by decide))) (ov_at rfl (ov_lt hlen (by decide)))).up (by decide)) rfl ?_
        exact ow_irt rfl rfl rfl
      · refine FR_st rfl rfl ?_
        refine RT_step (pc2 := 1) rfl (fun _ _ => rfl) ?_
        refine ow_iv1 (l2 := ((180, mcl (Int32.ofNat 0) (Int32.ofNat 0) n lim a1 pl1 (km kd1) nm1 sg1 (Int32.ofNat 0) qm1 wd1 (Int32.ofNat q) (pof pr)) :: (181, mtl ts) :: [(183, ia rd), (188, lng rn), (191, zb on)])) rfl rfl rfl rfl hlen rfl rfl rfl ((h.2 H hlen).up (by decide)) rfl ?_
        refine RT_step (pc2 := 5) rfl (fun _ _ => rfl) ?_
        refine RT_step (pc2 := 6) rfl (fun _ _ => rfl) ?_
        refine rt_ico rfl ki_m1 ?_
        refine biF_ne rfl (n_m1 (by omega)) ?_
        refine rt_bip rfl k8_52 ?_
        refine rt_bip rfl k8_7 ?_
        refine RT_step (pc2 := 17) rfl (fun _ _ => rfl) ?_
        refine ba_imul rfl ?_
        refine ba_iadd rfl ?_
        refine RT_step (pc2 := 20) rfl (fun _ _ => rfl) ?_
        refine ow_gf rfl rfl rfl hlen rfl ?_
        refine ba_iadd rfl ?_
        rw [ix_f]
        refine RT_step (pc2 := 25) rfl (fun _ _ => rfl) ?_
        refine RT_step (pc2 := 26) rfl (fun _ _ => rfl) ?_
        refine ow_gf rfl rfl rfl hlen rfl ?_
        refine RT_step (pc2 := 30) rfl (fun _ _ => rfl) ?_
        refine ow_ialN rfl rfl f2 (by omega) hlen rfl ?_
        refine bcF_eq rfl e ?_
        refine RT_step (pc2 := 35) rfl (fun _ _ => rfl) ?_
        refine rt_ico rfl ki_3 ?_
        refine ow_iv1 (l2 := ((180, M) :: (181, mtl ts) :: [(183, ia rd), (188, lng rn), (191, zb on)])) rfl rfl rfl rfl hlen rfl rfl rfl ((hm _ (ov_hl hlen) (ov_at rfl (ov_lt hlen (by decide))) (ov_at rfl (ov_lt hlen (by decide)))).up (by decide)) rfl ?_
        exact ow_irt rfl rfl rfl
