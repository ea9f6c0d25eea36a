theorem on3_0 {B : Nat → Nat} {bs ts : List Int32} {n lim : Nat} {pr : List Value} {k a kd pl w : Nat} {le : Int64} {nu tk td fp nm sg qm : Int32} {wd : Int64} {P : Nat} {Dn : Nat} {lw : Int32} {cl : Int32} {id : Int32} {gl : Nat} {bo : Nat} {pn : List Int64} {ri : List Int32} {lf : List Int32} {wa : List Int32} {fo : List Int32} {dn : List Int64} {ha : List Int32} {pa : List Int32} {bl : List Int32} {rd : List Int32} {rn : List Int64} {on : List Int32} (hB : BY bs B) (hM : MY ts B) (hb : ∀ i, B i < 256) (hn : n ≤ 940) (hl : lim ≤ 940) (t : TF k n a kd w le nu nm sg wd) (hw : w = 8) (d : DR P Dn lw cl id gl bo pn ri lf wa fo dn ha pa bl rd rn on) : (∃ T M D R, FC n lim (pof pr) T M ∧ SH3 D ∧ SHR R ∧ LR bs ts 6 77 [.ref 3, .ref 1] 6 262 [.ref 180, .int (Int32.ofNat 0)] (tcl n lim a kd pl w le nu tk (Int32.ofNat 0) fp) (mcl (Int32.ofNat 0) (Int32.ofNat 0) n lim a pl (km kd) nm sg (Int32.ofNat 0) qm wd td (pof pr)) [(3, dcl3 P Dn lw cl id gl bo), (4, lng pn), (5, ia ri), (6, ia lf), (7, ia wa), (8, ia fo), (9, lng dn), (10, ia ha), (11, ia pa), (12, ia bl)] [(183, ia rd), (188, lng rn), (191, zb on)] (.int (Int32.ofNat 0)) (.int (Int32.ofNat 0)) T M D R) ∨ (∃ tk2 td2 T M D R, TC n lim (pof pr) (k + 1) tk2 td2 T M ∧ SD3 D R ∧ LR bs ts 6 77 [.ref 3, .ref 1] 6 262 [.ref 180, .int (Int32.ofNat 0)] (tcl n lim a kd pl w le nu tk (Int32.ofNat 0) fp) (mcl (Int32.ofNat 0) (Int32.ofNat 0) n lim a pl (km kd) nm sg (Int32.ofNat 0) qm wd td (pof pr)) [(3, dcl3 P Dn lw cl id gl bo), (4, lng pn), (5, ia ri), (6, ia lf), (7, ia wa), (8, ia fo), (9, lng dn), (10, ia ha), (11, ia pa), (12, ia bl)] [(183, ia rd), (188, lng rn), (191, zb on)] (.int (Int32.ofNat 1)) (.int (Int32.ofNat 1)) T M D R) := by
  obtain ⟨hP, hD, ⟨l1, l2, l3, l4, l5, l6, l7, l8, l9⟩, lr, ln, lo, hN, hV, hW, o1, o2, o3⟩ := d
  have hk1 := w_k1 t (by omega)
  rcases o1 with ⟨e1, e2, e3⟩ | ⟨u, u1, u2, e1, e2, e3⟩
  · subst e1
    have hu := hP
    obtain ⟨T1, M1, c1, x1, m1⟩ := s_adv hB hM hb hn hl (po := pof pr) (pl := pl) (tk := tk) (td := td) (fp := fp) (plM := qm) t (by omega) (by omega)
    obtain ⟨a1, kd1, pl1, w1, le1, nu1, fp1, nm1, sg1, qm1, wd1, rfl, rfl, t1⟩ := c1
    rcases s_num hB hM hb hn hl (po := pof pr) (pl := pl1) (tk := tk) (td := td) (fp := fp1) (plM := qm1) t1 (lo := 1) (hi := 30) (by decide) (by decide) with ⟨T, M, f, hx, hm⟩ | ⟨v, T3, M3, v1, v2, c3, hx, hm⟩
    · have f0 := f
      obtain ⟨a9, kd9, pl9, w9, le9, nu9, tk9, kk9, am9, fm9, kM9, nm9, sg9, fa9, qm9, wd9, td9, rfl, rfl, -⟩ := f
      refine Or.inl ⟨tcl n lim a9 kd9 pl9 w9 le9 nu9 tk9 (Int32.ofNat kk9) (Int32.ofNat pl9), mcl (Int32.ofNat 0) (Int32.ofNat 0) n lim am9 fm9 kM9 nm9 sg9 fa9 qm9 wd9 td9 (pof pr), [(3, dcl3 P Dn (Int32.ofNat 0) cl id gl bo), (4, lng pn), (5, ia ri), (6, ia lf), (7, ia wa), (8, ia fo), (9, lng dn), (10, ia ha), (11, ia pa), (12, ia bl)], [(183, ia rd), (188, lng rn), (191, zb (on.set 0 (Int32.ofNat 1)))], f0, ⟨_, _, _, _, _, _, _, _, _, _, _, _, _, _, _, _, rfl⟩, ⟨_, _, _, rfl⟩, fun H hlen => ?_, fun H hlen => ?_⟩
      · refine FR_st rfl rfl ?_
        refine RT_step (pc2 := 1) rfl (fun _ _ => rfl) ?_
        refine ow_gf rfl rfl rfl hlen rfl ?_
        refine RT_step (pc2 := 5) rfl (fun _ _ => rfl) ?_
        refine RT_step (pc2 := 6) rfl (fun _ _ => rfl) ?_
        refine RT_step (pc2 := 9) rfl (fun _ _ => rfl) ?_
        refine rt_acN rfl (by omega) (by omega) ?_
        refine RT_if hw ?_
        refine RT_step (pc2 := 13) rfl (fun _ _ => rfl) ?_
        refine ow_gf rfl rfl rfl hlen rfl ?_
        refine RT_step (pc2 := 37) rfl (fun _ _ => rfl) ?_
        refine RT_step (pc2 := 38) rfl (fun _ _ => rfl) ?_
        refine RT_step (pc2 := 39) rfl (fun _ _ => rfl) ?_
        refine bcT_eq rfl rfl ?_
        refine RT_step (pc2 := 49) rfl (fun _ _ => rfl) ?_
        refine ow_iv0 (l2 := ((1, tcl n lim a1 kd1 pl1 w1 le1 nu1 tk (Int32.ofNat 0) fp1) :: (2, bcl bs) :: [(3, dcl3 P Dn (Int32.ofNat 0) cl id gl bo), (4, lng pn), (5, ia ri), (6, ia lf), (7, ia wa), (8, ia fo), (9, lng dn), (10, ia ha), (11, ia pa), (12, ia bl)])) rfl rfl rfl rfl hlen rfl rfl rfl ((x1 _ (ov_hl hlen) (ov_at rfl (ov_lt hlen (by decide))) (ov_at rfl (ov_lt hlen (by decide)))).up (by decide)) rfl ?_
        refine RT_step (pc2 := 53) rfl (fun _ _ => rfl) ?_
        refine rt_ico rfl ki_1 ?_
        refine rt_bip rfl k8_30 ?_
        refine ow_iv1 (l2 := ((1, tcl n lim a9 kd9 pl9 w9 le9 nu9 tk9 (Int32.ofNat kk9) (Int32.ofNat pl9)) :: (2, bcl bs) :: [(3, dcl3 P Dn (Int32.ofNat 0) cl id gl bo), (4, lng pn), (5, ia ri), (6, ia lf), (7, ia wa), (8, ia fo), (9, lng dn), (10, ia ha), (11, ia pa), (12, ia bl)])) rfl rfl rfl rfl hlen rfl rfl rfl ((hx _ (ov_hl hlen) (ov_at rfl (ov_lt hlen (by decide))) (ov_at rfl (ov_lt hlen (by decide)))).up (by decide)) rfl ?_
        refine bcT_ne rfl rfl ?_
        refine rt_ico rfl ki_0 ?_
        exact ow_irt rfl rfl rfl
      · refine FR_st rfl rfl ?_
        refine RT_step (pc2 := 1) rfl (fun _ _ => rfl) ?_
        refine ow_gf rfl rfl rfl hlen rfl ?_
        refine RT_step (pc2 := 5) rfl (fun _ _ => rfl) ?_
        refine ow_balN rfl rfl (by decide) e3 (by omega) hlen rfl ?_
        refine bcT_eq rfl rfl ?_
        refine RT_step (pc2 := 16) rfl (fun _ _ => rfl) ?_
        refine ow_gf rfl rfl rfl hlen rfl ?_
        refine RT_step (pc2 := 20) rfl (fun _ _ => rfl) ?_
        refine rt_ico rfl ki_1 ?_
        refine ow_zasN rfl rfl (by omega) (by omega) (by decide) hlen rfl rfl ?_
        refine RT_step (pc2 := 23) rfl (fun _ _ => rfl) ?_
        refine ow_iv0 (l2 := ((180, mcl (Int32.ofNat 0) (Int32.ofNat 0) n lim a1 pl1 (km kd1) nm1 sg1 (Int32.ofNat 0) qm1 wd1 td (pof pr)) :: (181, mtl ts) :: [(183, ia rd), (188, lng rn), (191, zb (on.set 0 (Int32.ofNat 1)))])) rfl rfl rfl rfl hlen rfl rfl rfl ((m1 _ (ov_hl hlen) (ov_at rfl (ov_lt hlen (by decide))) (ov_at rfl (ov_lt hlen (by decide)))).up (by decide)) rfl ?_
        refine RT_step (pc2 := 27) rfl (fun _ _ => rfl) ?_
        refine rt_ico rfl ki_2 ?_
        refine RT_step (pc2 := 29) rfl (fun _ _ => rfl) ?_
        refine ba_iadd rfl ?_
        rw [n_add]
        refine RT_step (pc2 := 31) rfl (fun _ _ => rfl) ?_
        refine rt_ico rfl ki_1 ?_
        refine rt_bip rfl k8_30 ?_
        refine ow_iv1 (l2 := ((180, mcl (Int32.ofNat 0) (Int32.ofNat 0) n lim am9 fm9 kM9 nm9 sg9 fa9 qm9 wd9 td9 (pof pr)) :: (181, mtl ts) :: [(183, ia rd), (188, lng rn), (191, zb (on.set 0 (Int32.ofNat 1)))])) rfl rfl rfl rfl hlen rfl rfl rfl ((hm _ (ov_hl hlen) (ov_at rfl (ov_lt hlen (by decide))) (ov_at rfl (ov_lt hlen (by decide)))).up (by decide)) rfl ?_
        refine ow_iv1 (l2 := ((180, mcl (Int32.ofNat 0) (Int32.ofNat 0) n lim am9 fm9 kM9 nm9 sg9 fa9 qm9 wd9 td9 (pof pr)) :: (181, mtl ts) :: [(183, ia rd), (188, lng rn), (191, zb (on.set 0 (Int32.ofNat 1)))])) rfl rfl rfl rfl hlen rfl rfl rfl (m_put_f.up (by decide)) rfl ?_
        exact ow_irt rfl rfl rfl
    · obtain ⟨a3, kd3, pl3, w3, le3, nu3, fp3, nm3, sg3, qm3, wd3, rfl, rfl, t3⟩ := c3
      refine Or.inr ⟨(Int32.ofNat v), (Int32.ofNat v), tcl n lim a3 kd3 pl3 w3 le3 nu3 (Int32.ofNat v) (Int32.ofNat 0) fp3, mcl (Int32.ofNat 0) (Int32.ofNat 0) n lim a3 pl3 (km kd3) nm3 sg3 (Int32.ofNat 0) qm3 wd3 (Int32.ofNat v) (pof pr), [(3, dcl3 P Dn (Int32.ofNat v) cl id gl bo), (4, lng pn), (5, ia ri), (6, ia lf), (7, ia wa), (8, ia fo), (9, lng dn), (10, ia ha), (11, ia pa), (12, ia bl)], [(183, ia (rd.set (2 + 0) (Int32.ofNat v))), (188, lng rn), (191, zb (on.set 0 (Int32.ofNat 1)))], tc_mono (tf_td t3) (by omega), ⟨_, _, _, _, _, _, _, _, _, _, _, _, _, _, _, _, _, _, _, rfl, rfl, ⟨hP, hD, ⟨l1, l2, l3, l4, l5, l6, l7, l8, l9⟩, by rw [List.length_set]; exact lr, ln, by rw [List.length_set]; exact lo, hN, vr_o hV hP hD (Or.inl ⟨by omega, by omega⟩), wa_set hW (Or.inl (by omega)), Or.inr ⟨v, v1, v2, rfl, List.getElem?_set_self (by omega), List.getElem?_set_self (by omega)⟩, oc_set2 o2 (by omega) (by omega), oc_set2 o3 (by omega) (by omega)⟩⟩, fun H hlen => ?_, fun H hlen => ?_⟩
      · refine FR_st rfl rfl ?_
        refine RT_step (pc2 := 1) rfl (fun _ _ => rfl) ?_
        refine ow_gf rfl rfl rfl hlen rfl ?_
        refine RT_step (pc2 := 5) rfl (fun _ _ => rfl) ?_
        refine RT_step (pc2 := 6) rfl (fun _ _ => rfl) ?_
        refine RT_step (pc2 := 9) rfl (fun _ _ => rfl) ?_
        refine rt_acN rfl (by omega) (by omega) ?_
        refine RT_if hw ?_
        refine RT_step (pc2 := 13) rfl (fun _ _ => rfl) ?_
        refine ow_gf rfl rfl rfl hlen rfl ?_
        refine RT_step (pc2 := 37) rfl (fun _ _ => rfl) ?_
        refine RT_step (pc2 := 38) rfl (fun _ _ => rfl) ?_
        refine RT_step (pc2 := 39) rfl (fun _ _ => rfl) ?_
        refine bcT_eq rfl rfl ?_
        refine RT_step (pc2 := 49) rfl (fun _ _ => rfl) ?_
        refine ow_iv0 (l2 := ((1, tcl n lim a1 kd1 pl1 w1 le1 nu1 tk (Int32.ofNat 0) fp1) :: (2, bcl bs) :: [(3, dcl3 P Dn (Int32.ofNat 0) cl id gl bo), (4, lng pn), (5, ia ri), (6, ia lf), (7, ia wa), (8, ia fo), (9, lng dn), (10, ia ha), (11, ia pa), (12, ia bl)])) rfl rfl rfl rfl hlen rfl rfl rfl ((x1 _ (ov_hl hlen) (ov_at rfl (ov_lt hlen (by decide))) (ov_at rfl (ov_lt hlen (by decide)))).up (by decide)) rfl ?_
        refine RT_step (pc2 := 53) rfl (fun _ _ => rfl) ?_
        refine rt_ico rfl ki_1 ?_
        refine rt_bip rfl k8_30 ?_
        refine ow_iv1 (l2 := ((1, tcl n lim a3 kd3 pl3 w3 le3 nu3 (Int32.ofNat v) (Int32.ofNat 0) fp3) :: (2, bcl bs) :: [(3, dcl3 P Dn (Int32.ofNat 0) cl id gl bo), (4, lng pn), (5, ia ri), (6, ia lf), (7, ia wa), (8, ia fo), (9, lng dn), (10, ia ha), (11, ia pa), (12, ia bl)])) rfl rfl rfl rfl hlen rfl rfl rfl ((hx _ (ov_hl hlen) (ov_at rfl (ov_lt hlen (by decide))) (ov_at rfl (ov_lt hlen (by decide)))).up (by decide)) rfl ?_
        refine bcF_ne rfl (by decide) ?_
        refine RT_step (pc2 := 65) rfl (fun _ _ => rfl) ?_
        refine RT_step (pc2 := 68) rfl (fun _ _ => rfl) ?_
        refine rt_acN rfl (by omega) (by omega) ?_
        refine RT_if hw ?_
        refine RT_step (pc2 := 72) rfl (fun _ _ => rfl) ?_
        refine RT_step (pc2 := 73) rfl (fun _ _ => rfl) ?_
        refine ow_gf rfl rfl rfl hlen rfl ?_
        refine ow_pf rfl rfl rfl rfl rfl hlen rfl rfl ?_
        refine RT_step (pc2 := 108) rfl (fun _ _ => rfl) ?_
        refine rt_ico rfl ki_1 ?_
        exact ow_irt rfl rfl rfl
      · refine FR_st rfl rfl ?_
        refine RT_step (pc2 := 1) rfl (fun _ _ => rfl) ?_
        refine ow_gf rfl rfl rfl hlen rfl ?_
        refine RT_step (pc2 := 5) rfl (fun _ _ => rfl) ?_
        refine ow_balN rfl rfl (by decide) e3 (by omega) hlen rfl ?_
        refine bcT_eq rfl rfl ?_
        refine RT_step (pc2 := 16) rfl (fun _ _ => rfl) ?_
        refine ow_gf rfl rfl rfl hlen rfl ?_
        refine RT_step (pc2 := 20) rfl (fun _ _ => rfl) ?_
        refine rt_ico rfl ki_1 ?_
        refine ow_zasN rfl rfl (by omega) (by omega) (by decide) hlen rfl rfl ?_
        refine RT_step (pc2 := 23) rfl (fun _ _ => rfl) ?_
        refine ow_iv0 (l2 := ((180, mcl (Int32.ofNat 0) (Int32.ofNat 0) n lim a1 pl1 (km kd1) nm1 sg1 (Int32.ofNat 0) qm1 wd1 td (pof pr)) :: (181, mtl ts) :: [(183, ia rd), (188, lng rn), (191, zb (on.set 0 (Int32.ofNat 1)))])) rfl rfl rfl rfl hlen rfl rfl rfl ((m1 _ (ov_hl hlen) (ov_at rfl (ov_lt hlen (by decide))) (ov_at rfl (ov_lt hlen (by decide)))).up (by decide)) rfl ?_
        refine RT_step (pc2 := 27) rfl (fun _ _ => rfl) ?_
        refine rt_ico rfl ki_2 ?_
        refine RT_step (pc2 := 29) rfl (fun _ _ => rfl) ?_
        refine ba_iadd rfl ?_
        rw [n_add]
        refine RT_step (pc2 := 31) rfl (fun _ _ => rfl) ?_
        refine rt_ico rfl ki_1 ?_
        refine rt_bip rfl k8_30 ?_
        refine ow_iv1 (l2 := ((180, mcl (Int32.ofNat 0) (Int32.ofNat 0) n lim a3 pl3 (km kd3) nm3 sg3 (Int32.ofNat 0) qm3 wd3 (Int32.ofNat v) (pof pr)) :: (181, mtl ts) :: [(183, ia rd), (188, lng rn), (191, zb (on.set 0 (Int32.ofNat 1)))])) rfl rfl rfl rfl hlen rfl rfl rfl ((hm _ (ov_hl hlen) (ov_at rfl (ov_lt hlen (by decide))) (ov_at rfl (ov_lt hlen (by decide)))).up (by decide)) rfl ?_
        refine ow_iv1 (l2 := ((180, mcl (Int32.ofNat 0) (Int32.ofNat 0) n lim a3 pl3 (km kd3) nm3 sg3 (Int32.ofNat 0) qm3 wd3 (Int32.ofNat v) (pof pr)) :: (181, mtl ts) :: [(183, ia (rd.set (2 + 0) (Int32.ofNat v))), (188, lng rn), (191, zb (on.set 0 (Int32.ofNat 1)))])) rfl rfl rfl rfl hlen rfl rfl rfl ((m_put_t (j := 2 + 0) hlen (by omega) (by omega)).up (by decide)) rfl ?_
        exact ow_irt rfl rfl rfl
  · subst e1
    obtain ⟨T, M, f, hx, hm⟩ := s_ref (bs := bs) (ts := ts) (lim := lim) (po := pof pr) (pl := pl) (tk := tk) (td := td) (fp := fp) (plM := qm) t (kk := 3) (by decide) (by decide) (Or.inl (by omega))
    refine Or.inl ⟨T, M, [(3, dcl3 P Dn (Int32.ofNat u) cl id gl bo), (4, lng pn), (5, ia ri), (6, ia lf), (7, ia wa), (8, ia fo), (9, lng dn), (10, ia ha), (11, ia pa), (12, ia bl)], [(183, ia rd), (188, lng rn), (191, zb on)], f, ⟨_, _, _, _, _, _, _, _, _, _, _, _, _, _, _, _, rfl⟩, ⟨_, _, _, rfl⟩, fun H hlen => ?_, fun H hlen => ?_⟩
    · refine FR_st rfl rfl ?_
      refine RT_step (pc2 := 1) rfl (fun _ _ => rfl) ?_
      refine ow_gf rfl rfl rfl hlen rfl ?_
      refine RT_step (pc2 := 5) rfl (fun _ _ => rfl) ?_
      refine RT_step (pc2 := 6) rfl (fun _ _ => rfl) ?_
      refine RT_step (pc2 := 9) rfl (fun _ _ => rfl) ?_
      refine rt_acN rfl (by omega) (by omega) ?_
      refine RT_if hw ?_
      refine RT_step (pc2 := 13) rfl (fun _ _ => rfl) ?_
      refine ow_gf rfl rfl rfl hlen rfl ?_
      refine RT_step (pc2 := 37) rfl (fun _ _ => rfl) ?_
      refine RT_step (pc2 := 38) rfl (fun _ _ => rfl) ?_
      refine RT_step (pc2 := 39) rfl (fun _ _ => rfl) ?_
      refine bcF_eq rfl (n_z u1 (by omega)) ?_
      refine RT_step (pc2 := 43) rfl (fun _ _ => rfl) ?_
      refine rt_ico rfl ki_3 ?_
      refine ow_iv1 (l2 := ((1, T) :: (2, bcl bs) :: [(3, dcl3 P Dn (Int32.ofNat u) cl id gl bo), (4, lng pn), (5, ia ri), (6, ia lf), (7, ia wa), (8, ia fo), (9, lng dn), (10, ia ha), (11, ia pa), (12, ia bl)])) rfl rfl rfl rfl hlen rfl rfl rfl ((hx _ (ov_hl hlen) (ov_at rfl (ov_lt hlen (by decide))) (ov_at rfl (ov_lt hlen (by decide)))).up (by decide)) rfl ?_
      exact ow_irt rfl rfl rfl
    · refine FR_st rfl rfl ?_
      refine RT_step (pc2 := 1) rfl (fun _ _ => rfl) ?_
      refine ow_gf rfl rfl rfl hlen rfl ?_
      refine RT_step (pc2 := 5) rfl (fun _ _ => rfl) ?_
      refine ow_balN rfl rfl (by decide) e3 (by omega) hlen rfl ?_
      refine bcF_eq rfl (by decide) ?_
      refine RT_step (pc2 := 10) rfl (fun _ _ => rfl) ?_
      refine rt_ico rfl ki_3 ?_
      refine ow_iv1 (l2 := ((180, M) :: (181, mtl ts) :: [(183, ia rd), (188, lng rn), (191, zb on)])) rfl rfl rfl rfl hlen rfl rfl rfl ((hm _ (ov_hl hlen) (ov_at rfl (ov_lt hlen (by decide))) (ov_at rfl (ov_lt hlen (by decide)))).up (by decide)) rfl ?_
      exact ow_irt rfl rfl rfl
theorem on3_1 {B : Nat → Nat} {bs ts : List Int32} {n lim : Nat} {pr : List Value} {k a kd pl w : Nat} {le : Int64} {nu tk td fp nm sg qm : Int32} {wd : Int64} {P : Nat} {Dn : Nat} {lw : Int32} {cl : Int32} {id : Int32} {gl : Nat} {bo : Nat} {pn : List Int64} {ri : List Int32} {lf : List Int32} {wa : List Int32} {fo : List Int32} {dn : List Int64} {ha : List Int32} {pa : List Int32} {bl : List Int32} {rd : List Int32} {rn : List Int64} {on : List Int32} (hB : BY bs B) (hM : MY ts B) (hb : ∀ i, B i < 256) (hn : n ≤ 940) (hl : lim ≤ 940) (t : TF k n a kd w le nu nm sg wd) (hw : w = 9) (d : DR P Dn lw cl id gl bo pn ri lf wa fo dn ha pa bl rd rn on) : (∃ T M D R, FC n lim (pof pr) T M ∧ SH3 D ∧ SHR R ∧ LR bs ts 6 77 [.ref 3, .ref 1] 6 262 [.ref 180, .int (Int32.ofNat 1)] (tcl n lim a kd pl w le nu tk (Int32.ofNat 0) fp) (mcl (Int32.ofNat 0) (Int32.ofNat 0) n lim a pl (km kd) nm sg (Int32.ofNat 0) qm wd td (pof pr)) [(3, dcl3 P Dn lw cl id gl bo), (4, lng pn), (5, ia ri), (6, ia lf), (7, ia wa), (8, ia fo), (9, lng dn), (10, ia ha), (11, ia pa), (12, ia bl)] [(183, ia rd), (188, lng rn), (191, zb on)] (.int (Int32.ofNat 0)) (.int (Int32.ofNat 0)) T M D R) ∨ (∃ tk2 td2 T M D R, TC n lim (pof pr) (k + 1) tk2 td2 T M ∧ SD3 D R ∧ LR bs ts 6 77 [.ref 3, .ref 1] 6 262 [.ref 180, .int (Int32.ofNat 1)] (tcl n lim a kd pl w le nu tk (Int32.ofNat 0) fp) (mcl (Int32.ofNat 0) (Int32.ofNat 0) n lim a pl (km kd) nm sg (Int32.ofNat 0) qm wd td (pof pr)) [(3, dcl3 P Dn lw cl id gl bo), (4, lng pn), (5, ia ri), (6, ia lf), (7, ia wa), (8, ia fo), (9, lng dn), (10, ia ha), (11, ia pa), (12, ia bl)] [(183, ia rd), (188, lng rn), (191, zb on)] (.int (Int32.ofNat 1)) (.int (Int32.ofNat 1)) T M D R) := by
  obtain ⟨hP, hD, ⟨l1, l2, l3, l4, l5, l6, l7, l8, l9⟩, lr, ln, lo, hN, hV, hW, o1, o2, o3⟩ := d
  have hk1 := w_k1 t (by omega)
  rcases o2 with ⟨e1, e2, e3⟩ | ⟨u, u1, u2, e1, e2, e3⟩
  · subst e1
    have hu := hP
    obtain ⟨T1, M1, c1, x1, m1⟩ := s_adv hB hM hb hn hl (po := pof pr) (pl := pl) (tk := tk) (td := td) (fp := fp) (plM := qm) t (by omega) (by omega)
    obtain ⟨a1, kd1, pl1, w1, le1, nu1, fp1, nm1, sg1, qm1, wd1, rfl, rfl, t1⟩ := c1
    rcases s_num hB hM hb hn hl (po := pof pr) (pl := pl1) (tk := tk) (td := td) (fp := fp1) (plM := qm1) t1 (lo := 1) (hi := 30) (by decide) (by decide) with ⟨T, M, f, hx, hm⟩ | ⟨v, T3, M3, v1, v2, c3, hx, hm⟩
    · have f0 := f
      obtain ⟨a9, kd9, pl9, w9, le9, nu9, tk9, kk9, am9, fm9, kM9, nm9, sg9, fa9, qm9, wd9, td9, rfl, rfl, -⟩ := f
      refine Or.inl ⟨tcl n lim a9 kd9 pl9 w9 le9 nu9 tk9 (Int32.ofNat kk9) (Int32.ofNat pl9), mcl (Int32.ofNat 0) (Int32.ofNat 0) n lim am9 fm9 kM9 nm9 sg9 fa9 qm9 wd9 td9 (pof pr), [(3, dcl3 P Dn lw (Int32.ofNat 0) id gl bo), (4, lng pn), (5, ia ri), (6, ia lf), (7, ia wa), (8, ia fo), (9, lng dn), (10, ia ha), (11, ia pa), (12, ia bl)], [(183, ia rd), (188, lng rn), (191, zb (on.set 1 (Int32.ofNat 1)))], f0, ⟨_, _, _, _, _, _, _, _, _, _, _, _, _, _, _, _, rfl⟩, ⟨_, _, _, rfl⟩, fun H hlen => ?_, fun H hlen => ?_⟩
      · refine FR_st rfl rfl ?_
        refine RT_step (pc2 := 1) rfl (fun _ _ => rfl) ?_
        refine ow_gf rfl rfl rfl hlen rfl ?_
        refine RT_step (pc2 := 5) rfl (fun _ _ => rfl) ?_
        refine RT_step (pc2 := 6) rfl (fun _ _ => rfl) ?_
        refine RT_step (pc2 := 9) rfl (fun _ _ => rfl) ?_
        refine rt_acN rfl (by omega) (by omega) ?_
        refine RT_el (by omega) ?_
        refine RT_step (pc2 := 20) rfl (fun _ _ => rfl) ?_
        refine RT_step (pc2 := 23) rfl (fun _ _ => rfl) ?_
        refine rt_acN rfl (by omega) (by omega) ?_
        refine RT_if hw ?_
        refine RT_step (pc2 := 27) rfl (fun _ _ => rfl) ?_
        refine ow_gf rfl rfl rfl hlen rfl ?_
        refine RT_step (pc2 := 37) rfl (fun _ _ => rfl) ?_
        refine RT_step (pc2 := 38) rfl (fun _ _ => rfl) ?_
        refine RT_step (pc2 := 39) rfl (fun _ _ => rfl) ?_
        refine bcT_eq rfl rfl ?_
        refine RT_step (pc2 := 49) rfl (fun _ _ => rfl) ?_
        refine ow_iv0 (l2 := ((1, tcl n lim a1 kd1 pl1 w1 le1 nu1 tk (Int32.ofNat 0) fp1) :: (2, bcl bs) :: [(3, dcl3 P Dn lw (Int32.ofNat 0) id gl bo), (4, lng pn), (5, ia ri), (6, ia lf), (7, ia wa), (8, ia fo), (9, lng dn), (10, ia ha), (11, ia pa), (12, ia bl)])) rfl rfl rfl rfl hlen rfl rfl rfl ((x1 _ (ov_hl hlen) (ov_at rfl (ov_lt hlen (by decide))) (ov_at rfl (ov_lt hlen (by decide)))).up (by decide)) rfl ?_
        refine RT_step (pc2 := 53) rfl (fun _ _ => rfl) ?_
        refine rt_ico rfl ki_1 ?_
        refine rt_bip rfl k8_30 ?_
        refine ow_iv1 (l2 := ((1, tcl n lim a9 kd9 pl9 w9 le9 nu9 tk9 (Int32.ofNat kk9) (Int32.ofNat pl9)) :: (2, bcl bs) :: [(3, dcl3 P Dn lw (Int32.ofNat 0) id gl bo), (4, lng pn), (5, ia ri), (6, ia lf), (7, ia wa), (8, ia fo), (9, lng dn), (10, ia ha), (11, ia pa), (12, ia bl)])) rfl rfl rfl rfl hlen rfl rfl rfl ((hx _ (ov_hl hlen) (ov_at rfl (ov_lt hlen (by decide))) (ov_at rfl (ov_lt hlen (by decide)))).up (by decide)) rfl ?_
        refine bcT_ne rfl rfl ?_
        refine rt_ico rfl ki_0 ?_
        exact ow_irt rfl rfl rfl
      · refine FR_st rfl rfl ?_
        refine RT_step (pc2 := 1) rfl (fun _ _ => rfl) ?_
        refine ow_gf rfl rfl rfl hlen rfl ?_
        refine RT_step (pc2 := 5) rfl (fun _ _ => rfl) ?_
        refine ow_balN rfl rfl (by decide) e3 (by omega) hlen rfl ?_
        refine bcT_eq rfl rfl ?_
        refine RT_step (pc2 := 16) rfl (fun _ _ => rfl) ?_
        refine ow_gf rfl rfl rfl hlen rfl ?_
        refine RT_step (pc2 := 20) rfl (fun _ _ => rfl) ?_
        refine rt_ico rfl ki_1 ?_
        refine ow_zasN rfl rfl (by omega) (by omega) (by decide) hlen rfl rfl ?_
        refine RT_step (pc2 := 23) rfl (fun _ _ => rfl) ?_
        refine ow_iv0 (l2 := ((180, mcl (Int32.ofNat 0) (Int32.ofNat 0) n lim a1 pl1 (km kd1) nm1 sg1 (Int32.ofNat 0) qm1 wd1 td (pof pr)) :: (181, mtl ts) :: [(183, ia rd), (188, lng rn), (191, zb (on.set 1 (Int32.ofNat 1)))])) rfl rfl rfl rfl hlen rfl rfl rfl ((m1 _ (ov_hl hlen) (ov_at rfl (ov_lt hlen (by decide))) (ov_at rfl (ov_lt hlen (by decide)))).up (by decide)) rfl ?_
        refine RT_step (pc2 := 27) rfl (fun _ _ => rfl) ?_
        refine rt_ico rfl ki_2 ?_
        refine RT_step (pc2 := 29) rfl (fun _ _ => rfl) ?_
        refine ba_iadd rfl ?_
        rw [n_add]
        refine RT_step (pc2 := 31) rfl (fun _ _ => rfl) ?_
        refine rt_ico rfl ki_1 ?_
        refine rt_bip rfl k8_30 ?_
        refine ow_iv1 (l2 := ((180, mcl (Int32.ofNat 0) (Int32.ofNat 0) n lim am9 fm9 kM9 nm9 sg9 fa9 qm9 wd9 td9 (pof pr)) :: (181, mtl ts) :: [(183, ia rd), (188, lng rn), (191, zb (on.set 1 (Int32.ofNat 1)))])) rfl rfl rfl rfl hlen rfl rfl rfl ((hm _ (ov_hl hlen) (ov_at rfl (ov_lt hlen (by decide))) (ov_at rfl (ov_lt hlen (by decide)))).up (by decide)) rfl ?_
        refine ow_iv1 (l2 := ((180, mcl (Int32.ofNat 0) (Int32.ofNat 0) n lim am9 fm9 kM9 nm9 sg9 fa9 qm9 wd9 td9 (pof pr)) :: (181, mtl ts) :: [(183, ia rd), (188, lng rn), (191, zb (on.set 1 (Int32.ofNat 1)))])) rfl rfl rfl rfl hlen rfl rfl rfl (m_put_f.up (by decide)) rfl ?_
        exact ow_irt rfl rfl rfl
    · obtain ⟨a3, kd3, pl3, w3, le3, nu3, fp3, nm3, sg3, qm3, wd3, rfl, rfl, t3⟩ := c3
      refine Or.inr ⟨(Int32.ofNat v), (Int32.ofNat v), tcl n lim a3 kd3 pl3 w3 le3 nu3 (Int32.ofNat v) (Int32.ofNat 0) fp3, mcl (Int32.ofNat 0) (Int32.ofNat 0) n lim a3 pl3 (km kd3) nm3 sg3 (Int32.ofNat 0) qm3 wd3 (Int32.ofNat v) (pof pr), [(3, dcl3 P Dn lw (Int32.ofNat v) id gl bo), (4, lng pn), (5, ia ri), (6, ia lf), (7, ia wa), (8, ia fo), (9, lng dn), (10, ia ha), (11, ia pa), (12, ia bl)], [(183, ia (rd.set (2 + 1) (Int32.ofNat v))), (188, lng rn), (191, zb (on.set 1 (Int32.ofNat 1)))], tc_mono (tf_td t3) (by omega), ⟨_, _, _, _, _, _, _, _, _, _, _, _, _, _, _, _, _, _, _, rfl, rfl, ⟨hP, hD, ⟨l1, l2, l3, l4, l5, l6, l7, l8, l9⟩, by rw [List.length_set]; exact lr, ln, by rw [List.length_set]; exact lo, hN, vr_o hV hP hD (Or.inl ⟨by omega, by omega⟩), wa_set hW (Or.inl (by omega)), oc_set2 o1 (by omega) (by omega), Or.inr ⟨v, v1, v2, rfl, List.getElem?_set_self (by omega), List.getElem?_set_self (by omega)⟩, oc_set2 o3 (by omega) (by omega)⟩⟩, fun H hlen => ?_, fun H hlen => ?_⟩
      · refine FR_st rfl rfl ?_
        refine RT_step (pc2 := 1) rfl (fun _ _ => rfl) ?_
        refine ow_gf rfl rfl rfl hlen rfl ?_
        refine RT_step (pc2 := 5) rfl (fun _ _ => rfl) ?_
        refine RT_step (pc2 := 6) rfl (fun _ _ => rfl) ?_
        refine RT_step (pc2 := 9) rfl (fun _ _ => rfl) ?_
        refine rt_acN rfl (by omega) (by omega) ?_
        refine RT_el (by omega) ?_
        refine RT_step (pc2 := 20) rfl (fun _ _ => rfl) ?_
        refine RT_step (pc2 := 23) rfl (fun _ _ => rfl) ?_
        refine rt_acN rfl (by omega) (by omega) ?_
        refine RT_if hw ?_
        refine RT_step (pc2 := 27) rfl (fun _ _ => rfl) ?_
        refine ow_gf rfl rfl rfl hlen rfl ?_
        refine RT_step (pc2 := 37) rfl (fun _ _ => rfl) ?_
        refine RT_step (pc2 := 38) rfl (fun _ _ => rfl) ?_
        refine RT_step (pc2 := 39) rfl (fun _ _ => rfl) ?_
        refine bcT_eq rfl rfl ?_
        refine RT_step (pc2 := 49) rfl (fun _ _ => rfl) ?_
        refine ow_iv0 (l2 := ((1, tcl n lim a1 kd1 pl1 w1 le1 nu1 tk (Int32.ofNat 0) fp1) :: (2, bcl bs) :: [(3, dcl3 P Dn lw (Int32.ofNat 0) id gl bo), (4, lng pn), (5, ia ri), (6, ia lf), (7, ia wa), (8, ia fo), (9, lng dn), (10, ia ha), (11, ia pa), (12, ia bl)])) rfl rfl rfl rfl hlen rfl rfl rfl ((x1 _ (ov_hl hlen) (ov_at rfl (ov_lt hlen (by decide))) (ov_at rfl (ov_lt hlen (by decide)))).up (by decide)) rfl ?_
        refine RT_step (pc2 := 53) rfl (fun _ _ => rfl) ?_
        refine rt_ico rfl ki_1 ?_
        refine rt_bip rfl k8_30 ?_
        refine ow_iv1 (l2 := ((1, tcl n lim a3 kd3 pl3 w3 le3 nu3 (Int32.ofNat v) (Int32.ofNat 0) fp3) :: (2, bcl bs) :: [(3, dcl3 P Dn lw (Int32.ofNat 0) id gl bo), (4, lng pn), (5, ia ri), (6, ia lf), (7, ia wa), (8, ia fo), (9, lng dn), (10, ia ha), (11, ia pa), (12, ia bl)])) rfl rfl rfl rfl hlen rfl rfl rfl ((hx _ (ov_hl hlen) (ov_at rfl (ov_lt hlen (by decide))) (ov_at rfl (ov_lt hlen (by decide)))).up (by decide)) rfl ?_
        refine bcF_ne rfl (by decide) ?_
        refine RT_step (pc2 := 65) rfl (fun _ _ => rfl) ?_
        refine RT_step (pc2 := 68) rfl (fun _ _ => rfl) ?_
        refine rt_acN rfl (by omega) (by omega) ?_
        refine RT_el (by omega) ?_
        refine RT_step (pc2 := 83) rfl (fun _ _ => rfl) ?_
        refine RT_step (pc2 := 86) rfl (fun _ _ => rfl) ?_
        refine rt_acN rfl (by omega) (by omega) ?_
        refine RT_if hw ?_
        refine RT_step (pc2 := 90) rfl (fun _ _ => rfl) ?_
        refine RT_step (pc2 := 91) rfl (fun _ _ => rfl) ?_
        refine ow_gf rfl rfl rfl hlen rfl ?_
        refine ow_pf rfl rfl rfl rfl rfl hlen rfl rfl ?_
        refine RT_step (pc2 := 108) rfl (fun _ _ => rfl) ?_
        refine rt_ico rfl ki_1 ?_
        exact ow_irt rfl rfl rfl
      · refine FR_st rfl rfl ?_
        refine RT_step (pc2 := 1) rfl (fun _ _ => rfl) ?_
        refine ow_gf rfl rfl rfl hlen rfl ?_
        refine RT_step (pc2 := 5) rfl (fun _ _ => rfl) ?_
        refine ow_balN rfl rfl (by decide) e3 (by omega) hlen rfl ?_
        refine bcT_eq rfl rfl ?_
        refine RT_step (pc2 := 16) rfl (fun _ _ => rfl) ?_
        refine ow_gf rfl rfl rfl hlen rfl ?_
        refine RT_step (pc2 := 20) rfl (fun _ _ => rfl) ?_
        refine rt_ico rfl ki_1 ?_
        refine ow_zasN rfl rfl (by omega) (by omega) (by decide) hlen rfl rfl ?_
        refine RT_step (pc2 := 23) rfl (fun _ _ => rfl) ?_
        refine ow_iv0 (l2 := ((180, mcl (Int32.ofNat 0) (Int32.ofNat 0) n lim a1 pl1 (km kd1) nm1 sg1 (Int32.ofNat 0) qm1 wd1 td (pof pr)) :: (181, mtl ts) :: [(183, ia rd), (188, lng rn), (191, zb (on.set 1 (Int32.ofNat 1)))])) rfl rfl rfl rfl hlen rfl rfl rfl ((m1 _ (ov_hl hlen) (ov_at rfl (ov_lt hlen (by decide))) (ov_at rfl (ov_lt hlen (by decide)))).up (by decide)) rfl ?_
        refine RT_step (pc2 := 27) rfl (fun _ _ => rfl) ?_
        refine rt_ico rfl ki_2 ?_
        refine RT_step (pc2 := 29) rfl (fun _ _ => rfl) ?_
        refine ba_iadd rfl ?_
        rw [n_add]
        refine RT_step (pc2 := 31) rfl (fun _ _ => rfl) ?_
        refine rt_ico rfl ki_1 ?_
        refine rt_bip rfl k8_30 ?_
        refine ow_iv1 (l2 := ((180, mcl (Int32.ofNat 0) (Int32.ofNat 0) n lim a3 pl3 (km kd3) nm3 sg3 (Int32.ofNat 0) qm3 wd3 (Int32.ofNat v) (pof pr)) :: (181, mtl ts) :: [(183, ia rd), (188, lng rn), (191, zb (on.set 1 (Int32.ofNat 1)))])) rfl rfl rfl rfl hlen rfl rfl rfl ((hm _ (ov_hl hlen) (ov_at rfl (ov_lt hlen (by decide))) (ov_at rfl (ov_lt hlen (by decide)))).up (by decide)) rfl ?_
        refine ow_iv1 (l2 := ((180, mcl (Int32.ofNat 0) (Int32.ofNat 0) n lim a3 pl3 (km kd3) nm3 sg3 (Int32.ofNat 0) qm3 wd3 (Int32.ofNat v) (pof pr)) :: (181, mtl ts) :: [(183, ia (rd.set (2 + 1) (Int32.ofNat v))), (188, lng rn), (191, zb (on.set 1 (Int32.ofNat 1)))])) rfl rfl rfl rfl hlen rfl rfl rfl ((m_put_t (j := 2 + 1) hlen (by omega) (by omega)).up (by decide)) rfl ?_
        exact ow_irt rfl rfl rfl
  · subst e1
    obtain ⟨T, M, f, hx, hm⟩ := s_ref (bs := bs) (ts := ts) (lim := lim) (po := pof pr) (pl := pl) (tk := tk) (td := td) (fp := fp) (plM := qm) t (kk := 3) (by decide) (by decide) (Or.inl (by omega))
    refine Or.inl ⟨T, M, [(3, dcl3 P Dn lw (Int32.ofNat u) id gl bo), (4, lng pn), (5, ia ri), (6, ia lf), (7, ia wa), (8, ia fo), (9, lng dn), (10, ia ha), (11, ia pa), (12, ia bl)], [(183, ia rd), (188, lng rn), (191, zb on)], f, ⟨_, _, _, _, _, _, _, _, _, _, _, _, _, _, _, _, rfl⟩, ⟨_, _, _, rfl⟩, fun H hlen => ?_, fun H hlen => ?_⟩
    · refine FR_st rfl rfl ?_
      refine RT_step (pc2 := 1) rfl (fun _ _ => rfl) ?_
      refine ow_gf rfl rfl rfl hlen rfl ?_
      refine RT_step (pc2 := 5) rfl (fun _ _ => rfl) ?_
      refine RT_step (pc2 := 6) rfl (fun _ _ => rfl) ?_
      refine RT_step (pc2 := 9) rfl (fun _ _ => rfl) ?_
      refine rt_acN rfl (by omega) (by omega) ?_
      refine RT_el (by omega) ?_
      refine RT_step (pc2 := 20) rfl (fun _ _ => rfl) ?_
      refine RT_step (pc2 := 23) rfl (fun _ _ => rfl) ?_
      refine rt_acN rfl (by omega) (by omega) ?_
      refine RT_if hw ?_
      refine RT_step (pc2 := 27) rfl (fun _ _ => rfl) ?_
      refine ow_gf rfl rfl rfl hlen rfl ?_
      refine RT_step (pc2 := 37) rfl (fun _ _ => rfl) ?_
      refine RT_step (pc2 := 38) rfl (fun _ _ => rfl) ?_
      refine RT_step (pc2 := 39) rfl (fun _ _ => rfl) ?_
      refine bcF_eq rfl (n_z u1 (by omega)) ?_
      refine RT_step (pc2 := 43) rfl (fun _ _ => rfl) ?_
      refine rt_ico rfl ki_3 ?_
      refine ow_iv1 (l2 := ((1, T) :: (2, bcl bs) :: [(3, dcl3 P Dn lw (Int32.ofNat u) id gl bo), (4, lng pn), (5, ia ri), (6, ia lf), (7, ia wa), (8, ia fo), (9, lng dn), (10, ia ha), (11, ia pa), (12, ia bl)])) rfl rfl rfl rfl hlen rfl rfl rfl ((hx _ (ov_hl hlen) (ov_at rfl (ov_lt hlen (by decide))) (ov_at rfl (ov_lt hlen (by decide)))).up (by decide)) rfl ?_
      exact ow_irt rfl rfl rfl
    · refine FR_st rfl rfl ?_
      refine RT_step (pc2 := 1) rfl (fun _ _ => rfl) ?_
      refine ow_gf rfl rfl rfl hlen rfl ?_
      refine RT_step (pc2 := 5) rfl (fun _ _ => rfl) ?_
      refine ow_balN rfl rfl (by decide) e3 (by omega) hlen rfl ?_
      refine bcF_eq rfl (by decide) ?_
      refine RT_step (pc2 := 10) rfl (fun _ _ => rfl) ?_
      refine rt_ico rfl ki_3 ?_
      refine ow_iv1 (l2 := ((180, M) :: (181, mtl ts) :: [(183, ia rd), (188, lng rn), (191, zb on)])) rfl rfl rfl rfl hlen rfl rfl rfl ((hm _ (ov_hl hlen) (ov_at rfl (ov_lt hlen (by decide))) (ov_at rfl (ov_lt hlen (by decide)))).up (by decide)) rfl ?_
      exact ow_irt rfl rfl rfl
theorem on3_2 {B : Nat → Nat} {bs ts : List Int32} {n lim : Nat} {pr : List Value} {k a kd pl w : Nat} {le : Int64} {nu tk td fp nm sg qm : Int32} {wd : Int64} {P : Nat} {Dn : Nat} {lw : Int32} {cl : Int32} {id : Int32} {gl : Nat} {bo : Nat} {pn : List Int64} {ri : List Int32} {lf : List Int32} {wa : List Int32} {fo : List Int32} {dn : List Int64} {ha : List Int32} {pa : List Int32} {bl : List Int32} {rd : List Int32} {rn : List Int64} {on : List Int32} (hB : BY bs B) (hM : MY ts B) (hb : ∀ i, B i < 256) (hn : n ≤ 940) (hl : lim ≤ 940) (t : TF k n a kd w le nu nm sg wd) (hw : w = 10) (d : DR P Dn lw cl id gl bo pn ri lf wa fo dn ha pa bl rd rn on) : (∃ T M D R, FC n lim (pof pr) T M ∧ SH3 D ∧ SHR R ∧ LR bs ts 6 77 [.ref 3, .ref 1] 6 262 [.ref 180, .int (Int32.ofNat 2)] (tcl n lim a kd pl w le nu tk (Int32.ofNat 0) fp) (mcl (Int32.ofNat 0) (Int32.ofNat 0) n lim a pl (km kd) nm sg (Int32.ofNat 0) qm wd td (pof pr)) [(3, dcl3 P Dn lw cl id gl bo), (4, lng pn), (5, ia ri), (6, ia lf), (7, ia wa), (8, ia fo), (9, lng dn), (10, ia ha), (11, ia pa), (12, ia bl)] [(183, ia rd), (188, lng rn), (191, zb on)] (.int (Int32.ofNat 0)) (.int (Int32.ofNat 0)) T M D R) ∨ (∃ tk2 td2 T M D R, TC n lim (pof pr) (k + 1) tk2 td2 T M ∧ SD3 D R ∧ LR bs ts 6 77 [.ref 3, .ref 1] 6 262 [.ref 180, .int (Int32.ofNat 2)] (tcl n lim a kd pl w le nu tk (Int32.ofNat 0) fp) (mcl (Int32.ofNat 0) (Int32.ofNat 0) n lim a pl (km kd) nm sg (Int32.ofNat 0) qm wd td (pof pr)) [(3, dcl3 P Dn lw cl id gl bo), (4, lng pn), (5, ia ri), (6, ia lf), (7, ia wa), (8, ia fo), (9, lng dn), (10, ia ha), (11, ia pa), (12, ia bl)] [(183, ia rd), (188, lng rn), (191, zb on)] (.int (Int32.ofNat 1)) (.int (Int32.ofNat 1)) T M D R) := by
  obtain ⟨hP, hD, ⟨l1, l2, l3, l4, l5, l6, l7, l8, l9⟩, lr, ln, lo, hN, hV, hW, o1, o2, o3⟩ := d
  have hk1 := w_k1 t (by omega)
  rcases o3 with ⟨e1, e2, e3⟩ | ⟨u, u1, u2, e1, e2, e3⟩
  · subst e1
    have hu := hP
    obtain ⟨T1, M1, c1, x1, m1⟩ := s_adv hB hM hb hn hl (po := pof pr) (pl := pl) (tk := tk) (td := td) (fp := fp) (plM := qm) t (by omega) (by omega)
    obtain ⟨a1, kd1, pl1, w1, le1, nu1, fp1, nm1, sg1, qm1, wd1, rfl, rfl, t1⟩ := c1
    rcases s_num hB hM hb hn hl (po := pof pr) (pl := pl1) (tk := tk) (td := td) (fp := fp1) (plM := qm1) t1 (lo := 1) (hi := 30) (by decide) (by decide) with ⟨T, M, f, hx, hm⟩ | ⟨v, T3, M3, v1, v2, c3, hx, hm⟩
    · have f0 := f
      obtain ⟨a9, kd9, pl9, w9, le9, nu9, tk9, kk9, am9, fm9, kM9, nm9, sg9, fa9, qm9, wd9, td9, rfl, rfl, -⟩ := f
      refine Or.inl ⟨tcl n lim a9 kd9 pl9 w9 le9 nu9 tk9 (Int32.ofNat kk9) (Int32.ofNat pl9), mcl (Int32.ofNat 0) (Int32.ofNat 0) n lim am9 fm9 kM9 nm9 sg9 fa9 qm9 wd9 td9 (pof pr), [(3, dcl3 P Dn lw cl (Int32.ofNat 0) gl bo), (4, lng pn), (5, ia ri), (6, ia lf), (7, ia wa), (8, ia fo), (9, lng dn), (10, ia ha), (11, ia pa), (12, ia bl)], [(183, ia rd), (188, lng rn), (191, zb (on.set 2 (Int32.ofNat 1)))], f0, ⟨_, _, _, _, _, _, _, _, _, _, _, _, _, _, _, _, rfl⟩, ⟨_, _, _, rfl⟩, fun H hlen => ?_, fun H hlen => ?_⟩
      · refine FR_st rfl rfl ?_
        refine RT_step (pc2 := 1) rfl (fun _ _ => rfl) ?_
        refine ow_gf rfl rfl rfl hlen rfl ?_
        refine RT_step (pc2 := 5) rfl (fun _ _ => rfl) ?_
        refine RT_step (pc2 := 6) rfl (fun _ _ => rfl) ?_
        refine RT_step (pc2 := 9) rfl (fun _ _ => rfl) ?_
        refine rt_acN rfl (by omega) (by omega) ?_
        refine RT_el (by omega) ?_
        refine RT_step (pc2 := 20) rfl (fun _ _ => rfl) ?_
        refine RT_step (pc2 := 23) rfl (fun _ _ => rfl) ?_
        refine rt_acN rfl (by omega) (by omega) ?_
        refine RT_el (by omega) ?_
        refine RT_step (pc2 := 34) rfl (fun _ _ => rfl) ?_
        refine ow_gf rfl rfl rfl hlen rfl ?_
        refine RT_step (pc2 := 38) rfl (fun _ _ => rfl) ?_
        refine RT_step (pc2 := 39) rfl (fun _ _ => rfl) ?_
        refine bcT_eq rfl rfl ?_
        refine RT_step (pc2 := 49) rfl (fun _ _ => rfl) ?_
        refine ow_iv0 (l2 := ((1, tcl n lim a1 kd1 pl1 w1 le1 nu1 tk (Int32.ofNat 0) fp1) :: (2, bcl bs) :: [(3, dcl3 P Dn lw cl (Int32.ofNat 0) gl bo), (4, lng pn), (5, ia ri), (6, ia lf), (7, ia wa), (8, ia fo), (9, lng dn), (10, ia ha), (11, ia pa), (12, ia bl)])) rfl rfl rfl rfl hlen rfl rfl rfl ((x1 _ (ov_hl hlen) (ov_at rfl (ov_lt hlen (by decide))) (ov_at rfl (ov_lt hlen (by decide)))).up (by decide)) rfl ?_
        refine RT_step (pc2 := 53) rfl (fun _ _ => rfl) ?_
        refine rt_ico rfl ki_1 ?_
        refine rt_bip rfl k8_30 ?_
        refine ow_iv1 (l2 := ((1, tcl n lim a9 kd9 pl9 w9 le9 nu9 tk9 (Int32.ofNat kk9) (Int32.ofNat pl9)) :: (2, bcl bs) :: [(3, dcl3 P Dn lw cl (Int32.ofNat 0) gl bo), (4, lng pn), (5, ia ri), (6, ia lf), (7, ia wa), (8, ia fo), (9, lng dn), (10, ia ha), (11, ia pa), (12, ia bl)])) rfl rfl rfl rfl hlen rfl rfl rfl ((hx _ (ov_hl hlen) (ov_at rfl (ov_lt hlen (by decide))) (ov_at rfl (ov_lt hlen (by decide)))).up (by decide)) rfl ?_
        refine bcT_ne rfl rfl ?_
        refine rt_ico rfl ki_0 ?_
        exact ow_irt rfl rfl rfl
      · refine FR_st rfl rfl ?_
        refine RT_step (pc2 := 1) rfl (fun _ _ => rfl) ?_
        refine ow_gf rfl rfl rfl hlen rfl ?_
        refine RT_step (pc2 := 5) rfl (fun _ _ => rfl) ?_
        refine ow_balN rfl rfl (by decide) e3 (by omega) hlen rfl ?_
        refine bcT_eq rfl rfl ?_
        refine RT_step (pc2 := 16) rfl (fun _ _ => rfl) ?_
        refine ow_gf rfl rfl rfl hlen rfl ?_
        refine RT_step (pc2 := 20) rfl (fun _ _ => rfl) ?_
        refine rt_ico rfl ki_1 ?_
        refine ow_zasN rfl rfl (by omega) (by omega) (by decide) hlen rfl rfl ?_
        refine RT_step (pc2 := 23) rfl (fun _ _ => rfl) ?_
        refine ow_iv0 (l2 := ((180, mcl (Int32.ofNat 0) (Int32.ofNat 0) n lim a1 pl1 (km kd1) nm1 sg1 (Int32.ofNat 0) qm1 wd1 td (pof pr)) :: (181, mtl ts) :: [(183, ia rd), (188, lng rn), (191, zb (on.set 2 (Int32.ofNat 1)))])) rfl rfl rfl rfl hlen rfl rfl rfl ((m1 _ (ov_hl hlen) (ov_at rfl (ov_lt hlen (by decide))) (ov_at rfl (ov_lt hlen (by decide)))).up (by decide)) rfl ?_
        refine RT_step (pc2 := 27) rfl (fun _ _ => rfl) ?_
        refine rt_ico rfl ki_2 ?_
        refine RT_step (pc2 := 29) rfl (fun _ _ => rfl) ?_
        refine ba_iadd rfl ?_
        rw [n_add]
        refine RT_step (pc2 := 31) rfl (fun _ _ => rfl) ?_
        refine rt_ico rfl ki_1 ?_
        refine rt_bip rfl k8_30 ?_
        refine ow_iv1 (l2 := ((180, mcl (Int32.ofNat 0) (Int32.ofNat 0) n lim am9 fm9 kM9 nm9 sg9 fa9 qm9 wd9 td9 (pof pr)) :: (181, mtl ts) :: [(183, ia rd), (188, lng rn), (191, zb (on.set 2 (Int32.ofNat 1)))])) rfl rfl rfl rfl hlen rfl rfl rfl ((hm _ (ov_hl hlen) (ov_at rfl (ov_lt hlen (by decide))) (ov_at rfl (ov_lt hlen (by decide)))).up (by decide)) rfl ?_
        refine ow_iv1 (l2 := ((180, mcl (Int32.ofNat 0) (Int32.ofNat 0) n lim am9 fm9 kM9 nm9 sg9 fa9 qm9 wd9 td9 (pof pr)) :: (181, mtl ts) :: [(183, ia rd), (188, lng rn), (191, zb (on.set 2 (Int32.ofNat 1)))])) rfl rfl rfl rfl hlen rfl rfl rfl (m_put_f.up (by decide)) rfl ?_
        exact ow_irt rfl rfl rfl
    · obtain ⟨a3, kd3, pl3, w3, le3, nu3, fp3, nm3, sg3, qm3, wd3, rfl, rfl, t3⟩ := c3
      refine Or.inr ⟨(Int32.ofNat v), (Int32.ofNat v), tcl n lim a3 kd3 pl3 w3 le3 nu3 (Int32.ofNat v) (Int32.ofNat 0) fp3, mcl (Int32.ofNat 0) (Int32.ofNat 0) n lim a3 pl3 (km kd3) nm3 sg3 (Int32.ofNat 0) qm3 wd3 (Int32.ofNat v) (pof pr), [(3, dcl3 P Dn lw cl (Int32.ofNat v) gl bo), (4, lng pn), (5, ia ri), (6, ia lf), (7, ia wa), (8, ia fo), (9, lng dn), (10, ia ha), (11, ia pa), (12, ia bl)], [(183, ia (rd.set (2 + 2) (Int32.ofNat v))), (188, lng rn), (191, zb (on.set 2 (Int32.ofNat 1)))], tc_mono (tf_td t3) (by omega), ⟨_, _, _, _, _, _, _, _, _, _, _, _, _, _, _, _, _, _, _, rfl, rfl, ⟨hP, hD, ⟨l1, l2, l3, l4, l5, l6, l7, l8, l9⟩, by rw [List.length_set]; exact lr, ln, by rw [List.length_set]; exact lo, hN, vr_o hV hP hD (Or.inl ⟨by omega, by omega⟩), wa_set hW (Or.inl (by omega)), oc_set2 o1 (by omega) (by omega), oc_set2 o2 (by omega) (by omega), Or.inr ⟨v, v1, v2, rfl, List.getElem?_set_self (by omega), List.getElem?_set_self (by omega)⟩⟩⟩, fun H hlen => ?_, fun H hlen => ?_⟩
      · refine FR_st rfl rfl ?_
        refine RT_step (pc2 := 1) rfl (fun _ _ => rfl) ?_
        refine ow_gf rfl rfl rfl hlen rfl ?_
        refine RT_step (pc2 := 5) rfl (fun _ _ => rfl) ?_
        refine RT_step (pc2 := 6) rfl (fun _ _ => rfl) ?_
        refine RT_step (pc2 := 9) rfl (fun _ _ => rfl) ?_
        refine rt_acN rfl (by omega) (by omega) ?_
        refine RT_el (by omega) ?_
        refine RT_step (pc2 := 20) rfl (fun _ _ => rfl) ?_
        refine RT_step (pc2 := 23) rfl (fun _ _ => rfl) ?_
        refine rt_acN rfl (by omega) (by omega) ?_
        refine RT_el (by omega) ?_
        refine RT_step (pc2 := 34) rfl (fun _ _ => rfl) ?_
        refine ow_gf rfl rfl rfl hlen rfl ?_
        refine RT_step (pc2 := 38) rfl (fun _ _ => rfl) ?_
        refine RT_step (pc2 := 39) rfl (fun _ _ => rfl) ?_
        refine bcT_eq rfl rfl ?_
        refine RT_step (pc2 := 49) rfl (fun _ _ => rfl) ?_
        refine ow_iv0 (l2 := ((1, tcl n lim a1 kd1 pl1 w1 le1 nu1 tk (Int32.ofNat 0) fp1) :: (2, bcl bs) :: [(3, dcl3 P Dn lw cl (Int32.ofNat 0) gl bo), (4, lng pn), (5, ia ri), (6, ia lf), (7, ia wa), (8, ia fo), (9, lng dn), (10, ia ha), (11, ia pa), (12, ia bl)])) rfl rfl rfl rfl hlen rfl rfl rfl ((x1 _ (ov_hl hlen) (ov_at rfl (ov_lt hlen (by decide))) (ov_at rfl (ov_lt hlen (by decide)))).up (by decide)) rfl ?_
        refine RT_step (pc2 := 53) rfl (fun _ _ => rfl) ?_
        refine rt_ico rfl ki_1 ?_
        refine rt_bip rfl k8_30 ?_
        refine ow_iv1 (l2 := ((1, tcl n lim a3 kd3 pl3 w3 le3 nu3 (Int32.ofNat v) (Int32.ofNat 0) fp3) :: (2, bcl bs) :: [(3, dcl3 P Dn lw cl (Int32.ofNat 0) gl bo), (4, lng pn), (5, ia ri), (6, ia lf), (7, ia wa), (8, ia fo), (9, lng dn), (10, ia ha), (11, ia pa), (12, ia bl)])) rfl rfl rfl rfl hlen rfl rfl rfl ((hx _ (ov_hl hlen) (ov_at rfl (ov_lt hlen (by decide))) (ov_at rfl (ov_lt hlen (by decide)))).up (by decide)) rfl ?_
        refine bcF_ne rfl (by decide) ?_
        refine RT_step (pc2 := 65) rfl (fun _ _ => rfl) ?_
        refine RT_step (pc2 := 68) rfl (fun _ _ => rfl) ?_
        refine rt_acN rfl (by omega) (by omega) ?_
        refine RT_el (by omega) ?_
        refine RT_step (pc2 := 83) rfl (fun _ _ => rfl) ?_
        refine RT_step (pc2 := 86) rfl (fun _ _ => rfl) ?_
        refine rt_acN rfl (by omega) (by omega) ?_
        refine RT_el (by omega) ?_
        refine RT_step (pc2 := 101) rfl (fun _ _ => rfl) ?_
        refine RT_step (pc2 := 102) rfl (fun _ _ => rfl) ?_
        refine ow_gf rfl rfl rfl hlen rfl ?_
        refine ow_pf rfl rfl rfl rfl rfl hlen rfl rfl ?_
        refine rt_ico rfl ki_1 ?_
        exact ow_irt rfl rfl rfl
      · refine FR_st rfl rfl ?_
        refine RT_step (pc2 := 1) rfl (fun _ _ => rfl) ?_
        refine ow_gf rfl rfl rfl hlen rfl ?_
        refine RT_step (pc2 := 5) rfl (fun _ _ => rfl) ?_
        refine ow_balN rfl rfl (by decide) e3 (by omega) hlen rfl ?_
        refine bcT_eq rfl rfl ?_
        refine RT_step (pc2 := 16) rfl (fun _ _ => rfl) ?_
        refine ow_gf rfl rfl rfl hlen rfl ?_
        refine RT_step (pc2 := 20) rfl (fun _ _ => rfl) ?_
        refine rt_ico rfl ki_1 ?_
        refine ow_zasN rfl rfl (by omega) (by omega) (by decide) hlen rfl rfl ?_
        refine RT_step (pc2 := 23) rfl (fun _ _ => rfl) ?_
        refine ow_iv0 (l2 := ((180, mcl (Int32.ofNat 0) (Int32.ofNat 0) n lim a1 pl1 (km kd1) nm1 sg1 (Int32.ofNat 0) qm1 wd1 td (pof pr)) :: (181, mtl ts) :: [(183, ia rd), (188, lng rn), (191, zb (on.set 2 (Int32.ofNat 1)))])) rfl rfl rfl rfl hlen rfl rfl rfl ((m1 _ (ov_hl hlen) (ov_at rfl (ov_lt hlen (by decide))) (ov_at rfl (ov_lt hlen (by decide)))).up (by decide)) rfl ?_
        refine RT_step (pc2 := 27) rfl (fun _ _ => rfl) ?_
        refine rt_ico rfl ki_2 ?_
        refine RT_step (pc2 := 29) rfl (fun _ _ => rfl) ?_
        refine ba_iadd rfl ?_
        rw [n_add]
        refine RT_step (pc2 := 31) rfl (fun _ _ => rfl) ?_
        refine rt_ico rfl ki_1 ?_
        refine rt_bip rfl k8_30 ?_
        refine ow_iv1 (l2 := ((180, mcl (Int32.ofNat 0) (Int32.ofNat 0) n lim a3 pl3 (km kd3) nm3 sg3 (Int32.ofNat 0) qm3 wd3 (Int32.ofNat v) (pof pr)) :: (181, mtl ts) :: [(183, ia rd), (188, lng rn), (191, zb (on.set 2 (Int32.ofNat 1)))])) rfl rfl rfl rfl hlen rfl rfl rfl ((hm _ (ov_hl hlen) (ov_at rfl (ov_lt hlen (by decide))) (ov_at rfl (ov_lt hlen (by decide)))).up (by decide)) rfl ?_
        refine ow_iv1 (l2 := ((180, mcl (Int32.ofNat 0) (Int32.ofNat 0) n lim a3 pl3 (km kd3) nm3 sg3 (Int32.ofNat 0) qm3 wd3 (Int32.ofNat v) (pof pr)) :: (181, mtl ts) :: [(183, ia (rd.set (2 + 2) (Int32.ofNat v))), (188, lng rn), (191, zb (on.set 2 (Int32.ofNat 1)))])) rfl rfl rfl rfl hlen rfl rfl rfl ((m_put_t (j := 2 + 2) hlen (by omega) (by omega)).up (by decide)) rfl ?_
        exact ow_irt rfl rfl rfl
  · subst e1
    obtain ⟨T, M, f, hx, hm⟩ := s_ref (bs := bs) (ts := ts) (lim := lim) (po := pof pr) (pl := pl) (tk := tk) (td := td) (fp := fp) (plM := qm) t (kk := 3) (by decide) (by decide) (Or.inl (by omega))
    refine Or.inl ⟨T, M, [(3, dcl3 P Dn lw cl (Int32.ofNat u) gl bo), (4, lng pn), (5, ia ri), (6, ia lf), (7, ia wa), (8, ia fo), (9, lng dn), (10, ia ha), (11, ia pa), (12, ia bl)], [(183, ia rd), (188, lng rn), (191, zb on)], f, ⟨_, _, _, _, _, _, _, _, _, _, _, _, _, _, _, _, rfl⟩, ⟨_, _, _, rfl⟩, fun H hlen => ?_, fun H hlen => ?_⟩
    · refine FR_st rfl rfl ?_
      refine RT_step (pc2 := 1) rfl (fun _ _ => rfl) ?_
      refine ow_gf rfl rfl rfl hlen rfl ?_
      refine RT_step (pc2 := 5) rfl (fun _ _ => rfl) ?_
      refine RT_step (pc2 := 6) rfl (fun _ _ => rfl) ?_
      refine RT_step (pc2 := 9) rfl (fun _ _ => rfl) ?_
      refine rt_acN rfl (by omega) (by omega) ?_
      refine RT_el (by omega) ?_
      refine RT_step (pc2 := 20) rfl (fun _ _ => rfl) ?_
      refine RT_step (pc2 := 23) rfl (fun _ _ => rfl) ?_
      refine rt_acN rfl (by omega) (by omega) ?_
      refine RT_el (by omega) ?_
      refine RT_step (pc2 := 34) rfl (fun _ _ => rfl) ?_
      refine ow_gf rfl rfl rfl hlen rfl ?_
      refine RT_step (pc2 := 38) rfl (fun _ _ => rfl) ?_
      refine RT_step (pc2 := 39) rfl (fun _ _ => rfl) ?_
      refine bcF_eq rfl (n_z u1 (by omega)) ?_
      refine RT_step (pc2 := 43) rfl (fun _ _ => rfl) ?_
      refine rt_ico rfl ki_3 ?_
      refine ow_iv1 (l2 := ((1, T) :: (2, bcl bs) :: [(3, dcl3 P Dn lw cl (Int32.ofNat u) gl bo), (4, lng pn), (5, ia ri), (6, ia lf), (7, ia wa), (8, ia fo), (9, lng dn), (10, ia ha), (11, ia pa), (12, ia bl)])) rfl rfl rfl rfl hlen rfl rfl rfl ((hx _ (ov_hl hlen) (ov_at rfl (ov_lt hlen (by decide))) (ov_at rfl (ov_lt hlen (by decide)))).up (by decide)) rfl ?_
      exact ow_irt rfl rfl rfl
    · refine FR_st rfl rfl ?_
      refine RT_step (pc2 := 1) rfl (fun _ _ => rfl) ?_
      refine ow_gf rfl rfl rfl hlen rfl ?_
      refine RT_step (pc2 := 5) rfl (fun _ _ => rfl) ?_
      refine ow_balN rfl rfl (by decide) e3 (by omega) hlen rfl ?_
      refine bcF_eq rfl (by decide) ?_
      refine RT_step (pc2 := 10) rfl (fun _ _ => rfl) ?_
      refine rt_ico rfl ki_3 ?_
      refine ow_iv1 (l2 := ((180, M) :: (181, mtl ts) :: [(183, ia rd), (188, lng rn), (191, zb on)])) rfl rfl rfl rfl hlen rfl rfl rfl ((hm _ (ov_hl hlen) (ov_at rfl (ov_lt hlen (by decide))) (ov_at rfl (ov_lt hlen (by decide)))).up (by decide)) rfl ?_
      exact ow_irt rfl rfl rfl
