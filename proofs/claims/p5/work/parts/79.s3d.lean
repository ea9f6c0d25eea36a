/-- both read alike (cells of the DUCHY from 13 on, of the SENTENCE from 115 on) -/
def SO13_115 (bs ts : List Int32) (vs : Nat → Value) (n lim : Nat) (P : Nat) (Dn : Nat) (lw : Int32) (cl : Int32) (id : Int32) (gl : Nat) (bo : Nat) (pn : List Int64) (ri : List Int32) (lf : List Int32) (wa : List Int32) (fo : List Int32) (dn : List Int64) (ha : List Int32) (pa : List Int32) (bl : List Int32) (nw : List Int32) (nz : List Int64) (kx x : Nat) (Ax : List Value) (ky m wi : Nat) : Prop := ∀ (k a kd pl w : Nat) (le : Int64) (nu tk td fp nm sg qm : Int32) (wd : Int64) (o s nn tp : Nat) (ws : List (Option Nat)) (sgl nbl nl : List Int32), TF k n a kd w le nu nm sg wd → o ≤ 20 → nn ≤ 2 * o → tp < 60 → SX s ws sgl nbl → nl.length = 240 → (∃ (T M : AE) (o2 s2 nn2 tp2 : Nat) (ws2 : List (Option Nat)) (sl2 nb2 nl2 : List Int32), FC n lim (posn vs nn2 o2 wi tp2) T M ∧ SX s2 ws2 sl2 nb2 ∧ LSn kx x Ax ky m [.ref 180] ((1, tcl n lim a kd pl w le nu tk (Int32.ofNat 0) fp) :: (2, bcl bs) :: [(13, dcl13 P Dn lw cl id gl bo), (14, lng pn), (15, ia ri), (16, ia lf), (17, ia wa), (18, ia fo), (19, lng dn), (20, ia ha), (21, ia pa), (22, ia bl), (115, .inr (7, [.int (Int32.ofNat o), .int (Int32.ofNat s), .ref 116, .ref 117, .ref 118, .ref 119])), (116, wrd ws), (117, ia sgl), (118, ia nbl)]) ((180, mcl (Int32.ofNat 0) (Int32.ofNat 0) n lim a pl (km kd) nm sg (Int32.ofNat 0) qm wd td (posn vs nn o wi tp)) :: (181, mtl ts) :: [(182, ia nw), (187, lng nz), (202, ia nl)]) (.int (Int32.ofNat 0)) (.int (Int32.ofNat 0)) [(1, T), (115, .inr (7, [.int (Int32.ofNat o2), .int (Int32.ofNat s2), .ref 116, .ref 117, .ref 118, .ref 119])), (116, wrd ws2), (117, ia sl2), (118, ia nb2)] [(180, M), (202, ia nl2)]) ∨ (∃ (k2 : Nat) (tk2 td2 : Int32) (T M : AE) (o2 s2 nn2 tp2 : Nat) (ws2 : List (Option Nat)) (sl2 nb2 nl2 : List Int32), TC n lim (posn vs nn2 o2 wi tp2) k2 tk2 td2 T M ∧ o < o2 ∧ o2 ≤ 20 ∧ nn2 + 2 * o + 1 ≤ nn + 2 * o2 ∧ tp2 < 60 ∧ SX s2 ws2 sl2 nb2 ∧ nl2.length = 240 ∧ LSn kx x Ax ky m [.ref 180] ((1, tcl n lim a kd pl w le nu tk (Int32.ofNat 0) fp) :: (2, bcl bs) :: [(13, dcl13 P Dn lw cl id gl bo), (14, lng pn), (15, ia ri), (16, ia lf), (17, ia wa), (18, ia fo), (19, lng dn), (20, ia ha), (21, ia pa), (22, ia bl), (115, .inr (7, [.int (Int32.ofNat o), .int (Int32.ofNat s), .ref 116, .ref 117, .ref 118, .ref 119])), (116, wrd ws), (117, ia sgl), (118, ia nbl)]) ((180, mcl (Int32.ofNat 0) (Int32.ofNat 0) n lim a pl (km kd) nm sg (Int32.ofNat 0) qm wd td (posn vs nn o wi tp)) :: (181, mtl ts) :: [(182, ia nw), (187, lng nz), (202, ia nl)]) (.int (Int32.ofNat 1)) (.int (Int32.ofNat 1)) [(1, T), (115, .inr (7, [.int (Int32.ofNat o2), .int (Int32.ofNat s2), .ref 116, .ref 117, .ref 118, .ref 119])), (116, wrd ws2), (117, ia sl2), (118, ia nb2)] [(180, M), (202, ia nl2)])
theorem so1_13_115 {B : Nat → Nat} {bs ts : List Int32} {vs : Nat → Value} {n lim : Nat} {P : Nat} {Dn : Nat} {lw : Int32} {cl : Int32} {id : Int32} {gl : Nat} {bo : Nat} {pn : List Int64} {ri : List Int32} {lf : List Int32} {wa : List Int32} {fo : List Int32} {dn : List Int64} {ha : List Int32} {pa : List Int32} {bl : List Int32} {nw : List Int32} {nz : List Int64} (hB : BY bs B) (hM : MY ts B) (hb : ∀ i, B i < 256) (hn : n ≤ 940) (hl : lim ≤ 940) (hP : P ≤ 7) (lp : pn.length = 7) (lz : nz.length = 15) (hv : nw[0]? = some (Int32.ofNat P)) (hN : ∀ i, i < P → ∃ ss, nok ss ∧ pn[i]? = some (p5 ss) ∧ nz[0 + i]? = some (p27 ss)) {wi KX KY : Nat} (hw8 : wi ≤ 8) (hC : wi < 8 → SO13_115 bs ts vs n lim P Dn lw cl id gl bo pn ri lf wa fo dn ha pa bl nw nz KX 142 [.ref 115, .ref 1, .ref 13, .int (Int32.ofNat (wi + 2))] KY 263 (wi + 1)) (hO : wi < 8 → SO13_115 bs ts vs n lim P Dn lw cl id gl bo pn ri lf wa fo dn ha pa bl nw nz KX 145 [.ref 115, .ref 1, .ref 13, .int (Int32.ofNat (wi + 2))] KY 266 (wi + 1)) : SO13_115 bs ts vs n lim P Dn lw cl id gl bo pn ri lf wa fo dn ha pa bl nw nz (KX + 8) 145 [.ref 115, .ref 1, .ref 13, .int (Int32.ofNat (wi + 1))] (KY + 10) 266 wi := by
  intro k a kd pl w le nu tk td fp nm sg qm wd o s nn tp ws sgl nbl nl t ho hnn htp sx ln
  have hk := (km_is kd t.2.2.2.1).2.2.2.2.2
  have hw := t.2.2.2.2.1
  have hk5 : kd < 10 := by have := t.2.2.2.1; omega
  obtain ⟨sv, sv1, sv2, sv3, bq⟩ := sgn_of t
  cases g : (Nat.beq kd 3 && Nat.beq sv 40) with
  | true =>
    have g2 := g
    rw [Bool.and_eq_true] at g2
    have k3 : kd = 3 := Nat.eq_of_beq_eq_true g2.1
    have w0 : w = 0 := t.2.2.2.2.2.2.1 (by omega)
    by_cases cf : o = 20 ∨ wi = 8
    · obtain ⟨T, M, f, hx, hm⟩ := s_ref (bs := bs) (ts := ts) (lim := lim) (po := (posn vs nn o wi tp)) (pl := pl) (tk := tk) (td := td) (fp := fp) (plM := qm) t (kk := 4) (by decide) (by decide) (Or.inl (by omega))
      refine Or.inl ⟨T, M, o, s, nn, tp, ws, sgl, nbl, nl, f, sx, ?_⟩
      by_cases co : o = 20
      · refine ⟨fun H hlen => ?_, fun H hlen => ?_⟩
        · refine FR_st2 (l2 := ((1, T) :: (2, bcl bs) :: [(13, dcl13 P Dn lw cl id gl bo), (14, lng pn), (15, ia ri), (16, ia lf), (17, ia wa), (18, ia fo), (19, lng dn), (20, ia ha), (21, ia pa), (22, ia bl), (115, .inr (7, [.int (Int32.ofNat o), .int (Int32.ofNat s), .ref 116, .ref 117, .ref 118, .ref 119])), (116, wrd ws), (117, ia sgl), (118, ia nbl)])) rfl rfl rfl ?_
          refine RT_step (pc2 := 1) rfl (fun _ _ => rfl) ?_
          refine rt_bip rfl k8_40 ?_
          refine ow_iv1 (l2 := ((1, tcl n lim a kd pl w le nu tk (Int32.ofNat 0) fp) :: (2, bcl bs) :: [(13, dcl13 P Dn lw cl id gl bo), (14, lng pn), (15, ia ri), (16, ia lf), (17, ia wa), (18, ia fo), (19, lng dn), (20, ia ha), (21, ia pa), (22, ia bl), (115, .inr (7, [.int (Int32.ofNat o), .int (Int32.ofNat s), .ref 116, .ref 117, .ref 118, .ref 119])), (116, wrd ws), (117, ia sgl), (118, ia nbl)])) rfl rfl rfl rfl hlen rfl rfl rfl ((x_isMarkHere (ov_hl hlen) (ov_at rfl (ov_lt hlen (by decide))) hk5 (c := 40) (s := sv) (by decide) sv1 sv2).up (by omega)) rfl ?_
          rw [g]
          refine RT_step (pc2 := 8) rfl (fun _ _ => rfl) ?_
          refine RT_step (pc2 := 10) rfl (fun _ _ => rfl) ?_
          refine bcF_ne rfl (by decide) ?_
          refine RT_step (pc2 := 30) rfl (fun _ _ => rfl) ?_
          refine ow_gf rfl rfl rfl hlen rfl ?_
          refine rt_bip rfl k8_20 ?_
          refine biT_ge rfl (n_le (by omega) (by omega)) ?_
          refine RT_step (pc2 := 45) rfl (fun _ _ => rfl) ?_
          refine rt_ico rfl ki_4 ?_
          refine ow_iv1 (l2 := ((1, T) :: (2, bcl bs) :: [(13, dcl13 P Dn lw cl id gl bo), (14, lng pn), (15, ia ri), (16, ia lf), (17, ia wa), (18, ia fo), (19, lng dn), (20, ia ha), (21, ia pa), (22, ia bl), (115, .inr (7, [.int (Int32.ofNat o), .int (Int32.ofNat s), .ref 116, .ref 117, .ref 118, .ref 119])), (116, wrd ws), (117, ia sgl), (118, ia nbl)])) rfl rfl rfl rfl hlen rfl rfl rfl ((hx _ (ov_hl hlen) (ov_at rfl (ov_lt hlen (by decide))) (ov_at rfl (ov_lt hlen (by decide)))).up (by omega)) rfl ?_
          exact ow_irt rfl rfl rfl
        · refine FR_st2 (l2 := ((180, M) :: (181, mtl ts) :: [(182, ia nw), (187, lng nz), (202, ia nl)])) rfl rfl rfl ?_
          refine RT_step (pc2 := 1) rfl (fun _ _ => rfl) ?_
          refine rt_bip rfl k8_40 ?_
          refine ow_iv1 (l2 := ((180, mcl (Int32.ofNat 0) (Int32.ofNat 0) n lim a pl (km kd) nm sg (Int32.ofNat 0) qm wd td (posn vs nn o wi tp)) :: (181, mtl ts) :: [(182, ia nw), (187, lng nz), (202, ia nl)])) rfl rfl rfl rfl hlen rfl rfl rfl ((m_isSign (ov_hl hlen) (ov_at rfl (ov_lt hlen (by decide))) hk (c := 40) (s := sv) (by decide) sv1 sv3).up (by omega)) rfl ?_
          refine RT_step (pc2 := 7) rfl (fun _ _ => rfl) ?_
          rw [bq, g]
          refine rt_bip rfl k8_19 ?_
          refine RT_step (pc2 := 10) rfl (fun _ _ => rfl) ?_
          refine m_wl (z := b01 true) hlen hk 11 19 _ rfl rfl rfl rfl (fun L2 l0 l1 l2 => ?_)
          rw [wj_eq t 11 19 rfl] at l2
          refine rt_ild rfl l1 ?_
          refine bcF_ne rfl (by decide) ?_
          refine rt_ald rfl l0 ?_
          refine ow_gf rfl rfl rfl hlen rfl ?_
          refine rt_bip rfl k8_20 ?_
          refine biT_eq rfl (n_eq co) ?_
          refine rt_ald rfl l0 ?_
          refine rt_ico rfl ki_4 ?_
          refine ow_iv1 (l2 := ((180, M) :: (181, mtl ts) :: [(182, ia nw), (187, lng nz), (202, ia nl)])) rfl rfl rfl rfl hlen rfl rfl rfl ((hm _ (ov_hl hlen) (ov_at rfl (ov_lt hlen (by decide))) (ov_at rfl (ov_lt hlen (by decide)))).up (by omega)) rfl ?_
          exact ow_irt rfl rfl rfl
      · refine ⟨fun H hlen => ?_, fun H hlen => ?_⟩
        · refine FR_st2 (l2 := ((1, T) :: (2, bcl bs) :: [(13, dcl13 P Dn lw cl id gl bo), (14, lng pn), (15, ia ri), (16, ia lf), (17, ia wa), (18, ia fo), (19, lng dn), (20, ia ha), (21, ia pa), (22, ia bl), (115, .inr (7, [.int (Int32.ofNat o), .int (Int32.ofNat s), .ref 116, .ref 117, .ref 118, .ref 119])), (116, wrd ws), (117, ia sgl), (118, ia nbl)])) rfl rfl rfl ?_
          refine RT_step (pc2 := 1) rfl (fun _ _ => rfl) ?_
          refine rt_bip rfl k8_40 ?_
          refine ow_iv1 (l2 := ((1, tcl n lim a kd pl w le nu tk (Int32.ofNat 0) fp) :: (2, bcl bs) :: [(13, dcl13 P Dn lw cl id gl bo), (14, lng pn), (15, ia ri), (16, ia lf), (17, ia wa), (18, ia fo), (19, lng dn), (20, ia ha), (21, ia pa), (22, ia bl), (115, .inr (7, [.int (Int32.ofNat o), .int (Int32.ofNat s), .ref 116, .ref 117, .ref 118, .ref 119])), (116, wrd ws), (117, ia sgl), (118, ia nbl)])) rfl rfl rfl rfl hlen rfl rfl rfl ((x_isMarkHere (ov_hl hlen) (ov_at rfl (ov_lt hlen (by decide))) hk5 (c := 40) (s := sv) (by decide) sv1 sv2).up (by omega)) rfl ?_
          rw [g]
          refine RT_step (pc2 := 8) rfl (fun _ _ => rfl) ?_
          refine RT_step (pc2 := 10) rfl (fun _ _ => rfl) ?_
          refine bcF_ne rfl (by decide) ?_
          refine RT_step (pc2 := 30) rfl (fun _ _ => rfl) ?_
          refine ow_gf rfl rfl rfl hlen rfl ?_
          refine rt_bip rfl k8_20 ?_
          refine biF_ge rfl (n_nle (by omega) (by omega)) ?_
          refine RT_step (pc2 := 39) rfl (fun _ _ => rfl) ?_
          refine rt_bip rfl k8_8 ?_
          refine biF_le rfl (n_nle (by omega) (by omega)) ?_
          refine RT_step (pc2 := 45) rfl (fun _ _ => rfl) ?_
          refine rt_ico rfl ki_4 ?_
          refine ow_iv1 (l2 := ((1, T) :: (2, bcl bs) :: [(13, dcl13 P Dn lw cl id gl bo), (14, lng pn), (15, ia ri), (16, ia lf), (17, ia wa), (18, ia fo), (19, lng dn), (20, ia ha), (21, ia pa), (22, ia bl), (115, .inr (7, [.int (Int32.ofNat o), .int (Int32.ofNat s), .ref 116, .ref 117, .ref 118, .ref 119])), (116, wrd ws), (117, ia sgl), (118, ia nbl)])) rfl rfl rfl rfl hlen rfl rfl rfl ((hx _ (ov_hl hlen) (ov_at rfl (ov_lt hlen (by decide))) (ov_at rfl (ov_lt hlen (by decide)))).up (by omega)) rfl ?_
          exact ow_irt rfl rfl rfl
        · refine FR_st2 (l2 := ((180, M) :: (181, mtl ts) :: [(182, ia nw), (187, lng nz), (202, ia nl)])) rfl rfl rfl ?_
          refine RT_step (pc2 := 1) rfl (fun _ _ => rfl) ?_
          refine rt_bip rfl k8_40 ?_
          refine ow_iv1 (l2 := ((180, mcl (Int32.ofNat 0) (Int32.ofNat 0) n lim a pl (km kd) nm sg (Int32.ofNat 0) qm wd td (posn vs nn o wi tp)) :: (181, mtl ts) :: [(182, ia nw), (187, lng nz), (202, ia nl)])) rfl rfl rfl rfl hlen rfl rfl rfl ((m_isSign (ov_hl hlen) (ov_at rfl (ov_lt hlen (by decide))) hk (c := 40) (s := sv) (by decide) sv1 sv3).up (by omega)) rfl ?_
          refine RT_step (pc2 := 7) rfl (fun _ _ => rfl) ?_
          rw [bq, g]
          refine rt_bip rfl k8_19 ?_
          refine RT_step (pc2 := 10) rfl (fun _ _ => rfl) ?_
          refine m_wl (z := b01 true) hlen hk 11 19 _ rfl rfl rfl rfl (fun L2 l0 l1 l2 => ?_)
          rw [wj_eq t 11 19 rfl] at l2
          refine rt_ild rfl l1 ?_
          refine bcF_ne rfl (by decide) ?_
          refine rt_ald rfl l0 ?_
          refine ow_gf rfl rfl rfl hlen rfl ?_
          refine rt_bip rfl k8_20 ?_
          refine biF_eq rfl (n_ne co (by omega) (by omega)) ?_
          refine rt_ald rfl l0 ?_
          refine ow_gf rfl rfl rfl hlen rfl ?_
          refine rt_bip rfl k8_8 ?_
          refine biT_ne rfl (n_eq (by omega)) ?_
          refine rt_ald rfl l0 ?_
          refine rt_ico rfl ki_4 ?_
          refine ow_iv1 (l2 := ((180, M) :: (181, mtl ts) :: [(182, ia nw), (187, lng nz), (202, ia nl)])) rfl rfl rfl rfl hlen rfl rfl rfl ((hm _ (ov_hl hlen) (ov_at rfl (ov_lt hlen (by decide))) (ov_at rfl (ov_lt hlen (by decide)))).up (by omega)) rfl ?_
          exact ow_irt rfl rfl rfl
    · obtain ⟨T1, M1, c1, x1, m1⟩ := s_adv hB hM hb hn hl (po := (posn vs nn (o + 1) (wi + 1) tp)) (pl := pl) (tk := tk) (td := td) (fp := fp) (plM := qm) t (by omega) (by omega)
      obtain ⟨a1, kd1, pl1, w1, le1, nu1, fp1, nm1, sg1, qm1, wd1, rfl, rfl, t1⟩ := c1
      rcases hC (by omega) _ a1 kd1 pl1 w1 le1 nu1 tk td fp1 nm1 sg1 qm1 wd1 (o + 1) s nn tp ws sgl nbl nl t1 (by omega) (by omega) htp sx ln with ⟨T, M, o2, s2, nn2, tp2, ws2, sl2, nb2, nl2, f, sx2, h⟩ | ⟨k2, tk2, td2, T2, M2, o2, s2, nn2, tp2, ws2, sl2, nb2, nl2, c2, o1, o2b, on, tp2b, sx2, ln2, h⟩
      · have f0 := f
        obtain ⟨a9, kd9, pl9, w9, le9, nu9, tk9, kk9, am9, fm9, kM9, nm9, sg9, fa9, qm9, wd9, td9, rfl, rfl, f9⟩ := f
        refine Or.inl ⟨tcl n lim a9 kd9 pl9 w9 le9 nu9 tk9 (Int32.ofNat kk9) (Int32.ofNat pl9), mcl (Int32.ofNat 0) (Int32.ofNat 0) n lim am9 fm9 kM9 nm9 sg9 fa9 qm9 wd9 td9 (posn vs nn2 o2 wi tp2), o2, s2, nn2, tp2, ws2, sl2, nb2, nl2, ⟨a9, kd9, pl9, w9, le9, nu9, tk9, kk9, am9, fm9, kM9, nm9, sg9, fa9, qm9, wd9, td9, rfl, rfl, f9⟩, sx2, fun H hlen => ?_, fun H hlen => ?_⟩
        · refine FR_st2 (l2 := ((1, tcl n lim a9 kd9 pl9 w9 le9 nu9 tk9 (Int32.ofNat kk9) (Int32.ofNat pl9)) :: (2, bcl bs) :: [(13, dcl13 P Dn lw cl id gl bo), (14, lng pn), (15, ia ri), (16, ia lf), (17, ia wa), (18, ia fo), (19, lng dn), (20, ia ha), (21, ia pa), (22, ia bl), (115, .inr (7, [.int (Int32.ofNat o2), .int (Int32.ofNat s2), .ref 116, .ref 117, .ref 118, .ref 119])), (116, wrd ws2), (117, ia sl2), (118, ia nb2)])) rfl rfl rfl ?_
          refine RT_step (pc2 := 1) rfl (fun _ _ => rfl) ?_
          refine rt_bip rfl k8_40 ?_
          refine ow_iv1 (l2 := ((1, tcl n lim a kd pl w le nu tk (Int32.ofNat 0) fp) :: (2, bcl bs) :: [(13, dcl13 P Dn lw cl id gl bo), (14, lng pn), (15, ia ri), (16, ia lf), (17, ia wa), (18, ia fo), (19, lng dn), (20, ia ha), (21, ia pa), (22, ia bl), (115, .inr (7, [.int (Int32.ofNat o), .int (Int32.ofNat s), .ref 116, .ref 117, .ref 118, .ref 119])), (116, wrd ws), (117, ia sgl), (118, ia nbl)])) rfl rfl rfl rfl hlen rfl rfl rfl ((x_isMarkHere (ov_hl hlen) (ov_at rfl (ov_lt hlen (by decide))) hk5 (c := 40) (s := sv) (by decide) sv1 sv2).up (by omega)) rfl ?_
          rw [g]
          refine RT_step (pc2 := 8) rfl (fun _ _ => rfl) ?_
          refine RT_step (pc2 := 10) rfl (fun _ _ => rfl) ?_
          refine bcF_ne rfl (by decide) ?_
          refine RT_step (pc2 := 30) rfl (fun _ _ => rfl) ?_
          refine ow_gf rfl rfl rfl hlen rfl ?_
          refine rt_bip rfl k8_20 ?_
          refine biF_ge rfl (n_nle (by omega) (by omega)) ?_
          refine RT_step (pc2 := 39) rfl (fun _ _ => rfl) ?_
          refine rt_bip rfl k8_8 ?_
          refine biT_le rfl (n_le (by omega) (by omega)) ?_
          refine RT_step (pc2 := 51) rfl (fun _ _ => rfl) ?_
          refine RT_step (pc2 := 52) rfl (fun _ _ => rfl) ?_
          refine ow_gf rfl rfl rfl hlen rfl ?_
          refine rt_ico rfl ki_1 ?_
          refine ba_iadd rfl ?_
          rw [n_add]
          refine ow_pf (l2 := ((1, tcl n lim a kd pl w le nu tk (Int32.ofNat 0) fp) :: (2, bcl bs) :: [(13, dcl13 P Dn lw cl id gl bo), (14, lng pn), (15, ia ri), (16, ia lf), (17, ia wa), (18, ia fo), (19, lng dn), (20, ia ha), (21, ia pa), (22, ia bl), (115, .inr (7, [.int (Int32.ofNat (o + 1)), .int (Int32.ofNat s), .ref 116, .ref 117, .ref 118, .ref 119])), (116, wrd ws), (117, ia sgl), (118, ia nbl)])) rfl rfl rfl rfl rfl hlen rfl rfl ?_
          refine RT_step (pc2 := 61) rfl (fun _ _ => rfl) ?_
          refine ow_gf rfl rfl rfl hlen rfl ?_
          refine RT_step (pc2 := 66) rfl (fun _ _ => rfl) ?_
          refine RT_step (pc2 := 67) rfl (fun _ _ => rfl) ?_
          refine ow_iv0 (l2 := ((1, tcl n lim a1 kd1 pl1 w1 le1 nu1 tk (Int32.ofNat 0) fp1) :: (2, bcl bs) :: [(13, dcl13 P Dn lw cl id gl bo), (14, lng pn), (15, ia ri), (16, ia lf), (17, ia wa), (18, ia fo), (19, lng dn), (20, ia ha), (21, ia pa), (22, ia bl), (115, .inr (7, [.int (Int32.ofNat (o + 1)), .int (Int32.ofNat s), .ref 116, .ref 117, .ref 118, .ref 119])), (116, wrd ws), (117, ia sgl), (118, ia nbl)])) rfl rfl rfl rfl hlen rfl rfl rfl ((x1 _ (ov_hl hlen) (ov_at rfl (ov_lt hlen (by decide))) (ov_at rfl (ov_lt hlen (by decide)))).up (by omega)) rfl ?_
          refine RT_step (pc2 := 72) rfl (fun _ _ => rfl) ?_
          refine bcF_eq rfl (by decide) ?_
          refine RT_step (pc2 := 76) rfl (fun _ _ => rfl) ?_
          refine RT_step (pc2 := 77) rfl (fun _ _ => rfl) ?_
          refine RT_step (pc2 := 78) rfl (fun _ _ => rfl) ?_
          refine RT_step (pc2 := 79) rfl (fun _ _ => rfl) ?_
          refine rt_ico rfl ki_1 ?_
          refine ba_iadd rfl ?_
          rw [n_add]
          refine ow_iv1 (l2 := ((1, tcl n lim a9 kd9 pl9 w9 le9 nu9 tk9 (Int32.ofNat kk9) (Int32.ofNat pl9)) :: (2, bcl bs) :: [(13, dcl13 P Dn lw cl id gl bo), (14, lng pn), (15, ia ri), (16, ia lf), (17, ia wa), (18, ia fo), (19, lng dn), (20, ia ha), (21, ia pa), (22, ia bl), (115, .inr (7, [.int (Int32.ofNat o2), .int (Int32.ofNat s2), .ref 116, .ref 117, .ref 118, .ref 119])), (116, wrd ws2), (117, ia sl2), (118, ia nb2)])) rfl rfl rfl rfl hlen rfl rfl rfl ((h.1 H hlen).up (by omega)) rfl ?_
          refine bcT_eq rfl rfl ?_
          refine rt_ico rfl ki_0 ?_
          exact ow_irt rfl rfl rfl
        · have hy : FR (KY + 5) 247 [.ref 180] (ov H ((180, mcl (Int32.ofNat 0) (Int32.ofNat 0) n lim a1 pl1 (km kd1) nm1 sg1 (Int32.ofNat 0) qm1 wd1 td (posn vs nn (o + 1) (wi + 1) tp)) :: (181, mtl ts) :: [(182, ia nw), (187, lng nz), (202, ia nl)])) (some (.int (Int32.ofNat 0)), ov (ov H ((180, mcl (Int32.ofNat 0) (Int32.ofNat 0) n lim a1 pl1 (km kd1) nm1 sg1 (Int32.ofNat 0) qm1 wd1 td (posn vs nn (o + 1) (wi + 1) tp)) :: (181, mtl ts) :: [(182, ia nw), (187, lng nz), (202, ia nl)])) [(180, mcl (Int32.ofNat 0) (Int32.ofNat 0) n lim am9 fm9 kM9 nm9 sg9 fa9 qm9 wd9 td9 (posn vs nn2 o2 (wi + 1) tp2)), (202, ia nl2)]) := by
            refine FR_st2 (l2 := ((180, mcl (Int32.ofNat 0) (Int32.ofNat 0) n lim am9 fm9 kM9 nm9 sg9 fa9 qm9 wd9 td9 (posn vs nn2 o2 (wi + 1) tp2)) :: (181, mtl ts) :: [(182, ia nw), (187, lng nz), (202, ia nl2)])) rfl rfl rfl ?_
            refine RT_step (pc2 := 1) rfl (fun _ _ => rfl) ?_
            refine ow_iv1 (l2 := ((180, mcl (Int32.ofNat 0) (Int32.ofNat 0) n lim am9 fm9 kM9 nm9 sg9 fa9 qm9 wd9 td9 (posn vs nn2 o2 (wi + 1) tp2)) :: (181, mtl ts) :: [(182, ia nw), (187, lng nz), (202, ia nl2)])) rfl rfl rfl rfl hlen rfl rfl rfl ((h.2 H hlen).up (by omega)) rfl ?_
            refine bcT_ne rfl rfl ?_
            refine rt_ico rfl ki_0 ?_
            exact ow_irt rfl rfl rfl
          refine FR_st2 (l2 := ((180, mcl (Int32.ofNat 0) (Int32.ofNat 0) n lim am9 fm9 kM9 nm9 sg9 fa9 qm9 wd9 td9 (posn vs nn2 o2 wi tp2)) :: (181, mtl ts) :: [(182, ia nw), (187, lng nz), (202, ia nl2)])) rfl rfl rfl ?_
          refine RT_step (pc2 := 1) rfl (fun _ _ => rfl) ?_
          refine rt_bip rfl k8_40 ?_
          refine ow_iv1 (l2 := ((180, mcl (Int32.ofNat 0) (Int32.ofNat 0) n lim a pl (km kd) nm sg (Int32.ofNat 0) qm wd td (posn vs nn o wi tp)) :: (181, mtl ts) :: [(182, ia nw), (187, lng nz), (202, ia nl)])) rfl rfl rfl rfl hlen rfl rfl rfl ((m_isSign (ov_hl hlen) (ov_at rfl (ov_lt hlen (by decide))) hk (c := 40) (s := sv) (by decide) sv1 sv3).up (by omega)) rfl ?_
          refine RT_step (pc2 := 7) rfl (fun _ _ => rfl) ?_
          rw [bq, g]
          refine rt_bip rfl k8_19 ?_
          refine RT_step (pc2 := 10) rfl (fun _ _ => rfl) ?_
          refine m_wl (z := b01 true) hlen hk 11 19 _ rfl rfl rfl rfl (fun L2 l0 l1 l2 => ?_)
          rw [wj_eq t 11 19 rfl] at l2
          refine rt_ild rfl l1 ?_
          refine bcF_ne rfl (by decide) ?_
          refine rt_ald rfl l0 ?_
          refine ow_gf rfl rfl rfl hlen rfl ?_
          refine rt_bip rfl k8_20 ?_
          refine biF_eq rfl (n_ne (by omega) (by omega) (by omega)) ?_
          refine rt_ald rfl l0 ?_
          refine ow_gf rfl rfl rfl hlen rfl ?_
          refine rt_bip rfl k8_8 ?_
          refine biF_ne rfl (n_ne (by omega) (by omega) (by omega)) ?_
          refine rt_ald rfl l0 ?_
          refine RT_step (pc2 := 72) rfl (fun _ _ => rfl) ?_
          refine ow_gf rfl rfl rfl hlen rfl ?_
          refine rt_ico rfl ki_1 ?_
          refine ba_iadd rfl ?_
          rw [n_add]
          refine ow_pf (l2 := ((180, mcl (Int32.ofNat 0) (Int32.ofNat 0) n lim a pl (km kd) nm sg (Int32.ofNat 0) qm wd td (posn vs nn (o + 1) wi tp)) :: (181, mtl ts) :: [(182, ia nw), (187, lng nz), (202, ia nl)])) rfl rfl rfl rfl rfl hlen rfl rfl ?_
          refine rt_ald rfl l0 ?_
          refine RT_step (pc2 := 82) rfl (fun _ _ => rfl) ?_
          refine ow_gf rfl rfl rfl hlen rfl ?_
          refine rt_ico rfl ki_1 ?_
          refine ba_iadd rfl ?_
          rw [n_add]
          refine ow_pf (l2 := ((180, mcl (Int32.ofNat 0) (Int32.ofNat 0) n lim a pl (km kd) nm sg (Int32.ofNat 0) qm wd td (posn vs nn (o + 1) (wi + 1) tp)) :: (181, mtl ts) :: [(182, ia nw), (187, lng nz), (202, ia nl)])) rfl rfl rfl rfl rfl hlen rfl rfl ?_
          refine rt_ald rfl l0 ?_
          refine ow_iv0 (l2 := ((180, mcl (Int32.ofNat 0) (Int32.ofNat 0) n lim a1 pl1 (km kd1) nm1 sg1 (Int32.ofNat 0) qm1 wd1 td (posn vs nn (o + 1) (wi + 1) tp)) :: (181, mtl ts) :: [(182, ia nw), (187, lng nz), (202, ia nl)])) rfl rfl rfl rfl hlen rfl rfl rfl ((m1 _ (ov_hl hlen) (ov_at rfl (ov_lt hlen (by decide))) (ov_at rfl (ov_lt hlen (by decide)))).up (by omega)) rfl ?_
          refine rt_ico rfl ki_1 ?_
          refine rt_ist rfl (by decide +kernel) ?_
          refine rt_ild rfl (gs_o rfl l1 rfl) ?_
          refine bcF_eq rfl (by decide) ?_
          refine rt_ald rfl (gs_o rfl l0 rfl) ?_
          refine ow_iv1 (l2 := ((180, mcl (Int32.ofNat 0) (Int32.ofNat 0) n lim am9 fm9 kM9 nm9 sg9 fa9 qm9 wd9 td9 (posn vs nn2 o2 (wi + 1) tp2)) :: (181, mtl ts) :: [(182, ia nw), (187, lng nz), (202, ia nl2)])) rfl rfl rfl rfl hlen rfl rfl rfl (hy.up (by omega)) rfl ?_
          refine rt_ist rfl (by decide +kernel) ?_
          refine RT_step (pc2 := 166) rfl (fun _ _ => rfl) ?_
          refine rt_ald rfl (gs_o rfl (gs_o rfl l0 rfl) rfl) ?_
          refine RT_step (pc2 := 168) rfl (fun _ _ => rfl) ?_
          refine ow_gf rfl rfl rfl hlen rfl ?_
          refine rt_ico rfl ki_1 ?_
          refine ba_isub rfl ?_
          rw [n_sub (by omega), Nat.add_sub_cancel]
          refine ow_pf (l2 := ((180, mcl (Int32.ofNat 0) (Int32.ofNat 0) n lim am9 fm9 kM9 nm9 sg9 fa9 qm9 wd9 td9 (posn vs nn2 o2 wi tp2)) :: (181, mtl ts) :: [(182, ia nw), (187, lng nz), (202, ia nl2)])) rfl rfl rfl rfl rfl hlen rfl rfl ?_
          refine rt_ild rfl gs_n ?_
          exact ow_irt rfl rfl rfl
      · obtain ⟨a2, kd2, pl2, w2, le2, nu2, fp2, nm2, sg2, qm2, wd2, rfl, rfl, t2⟩ := c2
        have hk2 := (km_is kd2 t2.2.2.2.1).2.2.2.2.2
        obtain ⟨su, su1, su2, su3, bu⟩ := sgn_of t2
        obtain ⟨mf, mt⟩ := s_mk (po := (posn vs nn2 o2 (wi + 1) tp2)) (pl := pl2) (tk := tk2) (td := td2) (fp := fp2) (plM := qm2) hB hM hb hn hl t2 (c := 41) (by decide) su1 su2
        cases gu : (Nat.beq kd2 3 && Nat.beq su 41) with
        | false =>
          obtain ⟨T, M, f, hx, hm⟩ := mf gu
          have f0 := f
          obtain ⟨a9, kd9, pl9, w9, le9, nu9, tk9, kk9, am9, fm9, kM9, nm9, sg9, fa9, qm9, wd9, td9, rfl, rfl, f9⟩ := f
          refine Or.inl ⟨tcl n lim a9 kd9 pl9 w9 le9 nu9 tk9 (Int32.ofNat kk9) (Int32.ofNat pl9), mcl (Int32.ofNat 0) (Int32.ofNat 0) n lim am9 fm9 kM9 nm9 sg9 fa9 qm9 wd9 td9 (posn vs nn2 o2 wi tp2), o2, s2, nn2, tp2, ws2, sl2, nb2, nl2, ⟨a9, kd9, pl9, w9, le9, nu9, tk9, kk9, am9, fm9, kM9, nm9, sg9, fa9, qm9, wd9, td9, rfl, rfl, f9⟩, sx2, fun H hlen => ?_, fun H hlen => ?_⟩
          · refine FR_st2 (l2 := ((1, tcl n lim a9 kd9 pl9 w9 le9 nu9 tk9 (Int32.ofNat kk9) (Int32.ofNat pl9)) :: (2, bcl bs) :: [(13, dcl13 P Dn lw cl id gl bo), (14, lng pn), (15, ia ri), (16, ia lf), (17, ia wa), (18, ia fo), (19, lng dn), (20, ia ha), (21, ia pa), (22, ia bl), (115, .inr (7, [.int (Int32.ofNat o2), .int (Int32.ofNat s2), .ref 116, .ref 117, .ref 118, .ref 119])), (116, wrd ws2), (117, ia sl2), (118, ia nb2)])) rfl rfl rfl ?_
            refine RT_step (pc2 := 1) rfl (fun _ _ => rfl) ?_
            refine rt_bip rfl k8_40 ?_
            refine ow_iv1 (l2 := ((1, tcl n lim a kd pl w le nu tk (Int32.ofNat 0) fp) :: (2, bcl bs) :: [(13, dcl13 P Dn lw cl id gl bo), (14, lng pn), (15, ia ri), (16, ia lf), (17, ia wa), (18, ia fo), (19, lng dn), (20, ia ha), (21, ia pa), (22, ia bl), (115, .inr (7, [.int (Int32.ofNat o), .int (Int32.ofNat s), .ref 116, .ref 117, .ref 118, .ref 119])), (116, wrd ws), (117, ia sgl), (118, ia nbl)])) rfl rfl rfl rfl hlen rfl rfl rfl ((x_isMarkHere (ov_hl hlen) (ov_at rfl (ov_lt hlen (by decide))) hk5 (c := 40) (s := sv) (by decide) sv1 sv2).up (by omega)) rfl ?_
            rw [g]
            refine RT_step (pc2 := 8) rfl (fun _ _ => rfl) ?_
            refine RT_step (pc2 := 10) rfl (fun _ _ => rfl) ?_
            refine bcF_ne rfl (by decide) ?_
            refine RT_step (pc2 := 30) rfl (fun _ _ => rfl) ?_
            refine ow_gf rfl rfl rfl hlen rfl ?_
            refine rt_bip rfl k8_20 ?_
            refine biF_ge rfl (n_nle (by omega) (by omega)) ?_
            refine RT_step (pc2 := 39) rfl (fun _ _ => rfl) ?_
            refine rt_bip rfl k8_8 ?_
            refine biT_le rfl (n_le (by omega) (by omega)) ?_
            refine RT_step (pc2 := 51) rfl (fun _ _ => rfl) ?_
            refine RT_step (pc2 := 52) rfl (fun _ _ => rfl) ?_
            refine ow_gf rfl rfl rfl hlen rfl ?_
            refine rt_ico rfl ki_1 ?_
            refine ba_iadd rfl ?_
            rw [n_add]
            refine ow_pf (l2 := ((1, tcl n lim a kd pl w le nu tk (Int32.ofNat 0) fp) :: (2, bcl bs) :: [(13, dcl13 P Dn lw cl id gl bo), (14, lng pn), (15, ia ri), (16, ia lf), (17, ia wa), (18, ia fo), (19, lng dn), (20, ia ha), (21, ia pa), (22, ia bl), (115, .inr (7, [.int (Int32.ofNat (o + 1)), .int (Int32.ofNat s), .ref 116, .ref 117, .ref 118, .ref 119])), (116, wrd ws), (117, ia sgl), (118, ia nbl)])) rfl rfl rfl rfl rfl hlen rfl rfl ?_
            refine RT_step (pc2 := 61) rfl (fun _ _ => rfl) ?_
            refine ow_gf rfl rfl rfl hlen rfl ?_
            refine RT_step (pc2 := 66) rfl (fun _ _ => rfl) ?_
            refine RT_step (pc2 := 67) rfl (fun _ _ => rfl) ?_
            refine ow_iv0 (l2 := ((1, tcl n lim a1 kd1 pl1 w1 le1 nu1 tk (Int32.ofNat 0) fp1) :: (2, bcl bs) :: [(13, dcl13 P Dn lw cl id gl bo), (14, lng pn), (15, ia ri), (16, ia lf), (17, ia wa), (18, ia fo), (19, lng dn), (20, ia ha), (21, ia pa), (22, ia bl), (115, .inr (7, [.int (Int32.ofNat (o + 1)), .int (Int32.ofNat s), .ref 116, .ref 117, .ref 118, .ref 119])), (116, wrd ws), (117, ia sgl), (118, ia nbl)])) rfl rfl rfl rfl hlen rfl rfl rfl ((x1 _ (ov_hl hlen) (ov_at rfl (ov_lt hlen (by decide))) (ov_at rfl (ov_lt hlen (by decide)))).up (by omega)) rfl ?_
            refine RT_step (pc2 := 72) rfl (fun _ _ => rfl) ?_
            refine bcF_eq rfl (by decide) ?_
            refine RT_step (pc2 := 76) rfl (fun _ _ => rfl) ?_
            refine RT_step (pc2 := 77) rfl (fun _ _ => rfl) ?_
            refine RT_step (pc2 := 78) rfl (fun _ _ => rfl) ?_
            refine RT_step (pc2 := 79) rfl (fun _ _ => rfl) ?_
            refine rt_ico rfl ki_1 ?_
            refine ba_iadd rfl ?_
            rw [n_add]
            refine ow_iv1 (l2 := ((1, tcl n lim a2 kd2 pl2 w2 le2 nu2 tk2 (Int32.ofNat 0) fp2) :: (2, bcl bs) :: [(13, dcl13 P Dn lw cl id gl bo), (14, lng pn), (15, ia ri), (16, ia lf), (17, ia wa), (18, ia fo), (19, lng dn), (20, ia ha), (21, ia pa), (22, ia bl), (115, .inr (7, [.int (Int32.ofNat o2), .int (Int32.ofNat s2), .ref 116, .ref 117, .ref 118, .ref 119])), (116, wrd ws2), (117, ia sl2), (118, ia nb2)])) rfl rfl rfl rfl hlen rfl rfl rfl ((h.1 H hlen).up (by omega)) rfl ?_
            refine bcF_eq rfl (by decide) ?_
            refine RT_step (pc2 := 88) rfl (fun _ _ => rfl) ?_
            refine rt_bip rfl k8_41 ?_
            refine ow_iv1 (l2 := ((1, tcl n lim a9 kd9 pl9 w9 le9 nu9 tk9 (Int32.ofNat kk9) (Int32.ofNat pl9)) :: (2, bcl bs) :: [(13, dcl13 P Dn lw cl id gl bo), (14, lng pn), (15, ia ri), (16, ia lf), (17, ia wa), (18, ia fo), (19, lng dn), (20, ia ha), (21, ia pa), (22, ia bl), (115, .inr (7, [.int (Int32.ofNat o2), .int (Int32.ofNat s2), .ref 116, .ref 117, .ref 118, .ref 119])), (116, wrd ws2), (117, ia sl2), (118, ia nb2)])) rfl rfl rfl rfl hlen rfl rfl rfl ((hx _ (ov_hl hlen) (ov_at rfl (ov_lt hlen (by decide))) (ov_at rfl (ov_lt hlen (by decide)))).up (by omega)) rfl ?_
            refine bcT_eq rfl rfl ?_
            refine rt_ico rfl ki_0 ?_
            exact ow_irt rfl rfl rfl
          · have hy : FR (KY + 5) 247 [.ref 180] (ov H ((180, mcl (Int32.ofNat 0) (Int32.ofNat 0) n lim a1 pl1 (km kd1) nm1 sg1 (Int32.ofNat 0) qm1 wd1 td (posn vs nn (o + 1) (wi + 1) tp)) :: (181, mtl ts) :: [(182, ia nw), (187, lng nz), (202, ia nl)])) (some (.int (Int32.ofNat 0)), ov (ov H ((180, mcl (Int32.ofNat 0) (Int32.ofNat 0) n lim a1 pl1 (km kd1) nm1 sg1 (Int32.ofNat 0) qm1 wd1 td (posn vs nn (o + 1) (wi + 1) tp)) :: (181, mtl ts) :: [(182, ia nw), (187, lng nz), (202, ia nl)])) [(180, mcl (Int32.ofNat 0) (Int32.ofNat 0) n lim am9 fm9 kM9 nm9 sg9 fa9 qm9 wd9 td9 (posn vs nn2 o2 (wi + 1) tp2)), (202, ia nl2)]) := by
              refine FR_st2 (l2 := ((180, mcl (Int32.ofNat 0) (Int32.ofNat 0) n lim am9 fm9 kM9 nm9 sg9 fa9 qm9 wd9 td9 (posn vs nn2 o2 (wi + 1) tp2)) :: (181, mtl ts) :: [(182, ia nw), (187, lng nz), (202, ia nl2)])) rfl rfl rfl ?_
              refine RT_step (pc2 := 1) rfl (fun _ _ => rfl) ?_
              refine ow_iv1 (l2 := ((180, mcl (Int32.ofNat 0) (Int32.ofNat 0) n lim a2 pl2 (km kd2) nm2 sg2 (Int32.ofNat 0) qm2 wd2 td2 (posn vs nn2 o2 (wi + 1) tp2)) :: (181, mtl ts) :: [(182, ia nw), (187, lng nz), (202, ia nl2)])) rfl rfl rfl rfl hlen rfl rfl rfl ((h.2 H hlen).up (by omega)) rfl ?_
              refine bcF_ne rfl (by decide) ?_
              refine RT_step (pc2 := 10) rfl (fun _ _ => rfl) ?_
              refine rt_bip rfl k8_41 ?_
              refine ow_iv1 (l2 := ((180, mcl (Int32.ofNat 0) (Int32.ofNat 0) n lim a2 pl2 (km kd2) nm2 sg2 (Int32.ofNat 0) qm2 wd2 td2 (posn vs nn2 o2 (wi + 1) tp2)) :: (181, mtl ts) :: [(182, ia nw), (187, lng nz), (202, ia nl2)])) rfl rfl rfl rfl hlen rfl rfl rfl ((m_isSign (ov_hl hlen) (ov_at rfl (ov_lt hlen (by decide))) hk2 (c := 41) (s := su) (by decide) su1 su3).up (by omega)) rfl ?_
              refine bcT_ne rfl (b01_f ((bu 41).trans gu)) ?_
              refine RT_step (pc2 := 19) rfl (fun _ _ => rfl) ?_
              refine rt_ico rfl ki_1 ?_
              refine ow_iv1 (l2 := ((180, mcl (Int32.ofNat 0) (Int32.ofNat 0) n lim am9 fm9 kM9 nm9 sg9 fa9 qm9 wd9 td9 (posn vs nn2 o2 (wi + 1) tp2)) :: (181, mtl ts) :: [(182, ia nw), (187, lng nz), (202, ia nl2)])) rfl rfl rfl rfl hlen rfl rfl rfl ((hm _ (ov_hl hlen) (ov_at rfl (ov_lt hlen (by decide))) (ov_at rfl (ov_lt hlen (by decide)))).up (by omega)) rfl ?_
              exact ow_irt rfl rfl rfl
            refine FR_st2 (l2 := ((180, mcl (Int32.ofNat 0) (Int32.ofNat 0) n lim am9 fm9 kM9 nm9 sg9 fa9 qm9 wd9 td9 (posn vs nn2 o2 wi tp2)) :: (181, mtl ts) :: [(182, ia nw), (187, lng nz), (202, ia nl2)])) rfl rfl rfl ?_
            refine RT_step (pc2 := 1) rfl (fun _ _ => rfl) ?_
            refine rt_bip rfl k8_40 ?_
            refine ow_iv1 (l2 := ((180, mcl (Int32.ofNat 0) (Int32.ofNat 0) n lim a pl (km kd) nm sg (Int32.ofNat 0) qm wd td (posn vs nn o wi tp)) :: (181, mtl ts) :: [(182, ia nw), (187, lng nz), (202, ia nl)])) rfl rfl rfl rfl hlen rfl rfl rfl ((m_isSign (ov_hl hlen) (ov_at rfl (ov_lt hlen (by decide))) hk (c := 40) (s := sv) (by decide) sv1 sv3).up (by omega)) rfl ?_
            refine RT_step (pc2 := 7) rfl (fun _ _ => rfl) ?_
            rw [bq, g]
            refine rt_bip rfl k8_19 ?_
            refine RT_step (pc2 := 10) rfl (fun _ _ => rfl) ?_
            refine m_wl (z := b01 true) hlen hk 11 19 _ rfl rfl rfl rfl (fun L2 l0 l1 l2 => ?_)
            rw [wj_eq t 11 19 rfl] at l2
            refine rt_ild rfl l1 ?_
            refine bcF_ne rfl (by decide) ?_
            refine rt_ald rfl l0 ?_
            refine ow_gf rfl rfl rfl hlen rfl ?_
            refine rt_bip rfl k8_20 ?_
            refine biF_eq rfl (n_ne (by omega) (by omega) (by omega)) ?_
            refine rt_ald rfl l0 ?_
            refine ow_gf rfl rfl rfl hlen rfl ?_
            refine rt_bip rfl k8_8 ?_
            refine biF_ne rfl (n_ne (by omega) (by omega) (by omega)) ?_
            refine rt_ald rfl l0 ?_
            refine RT_step (pc2 := 72) rfl (fun _ _ => rfl) ?_
            refine ow_gf rfl rfl rfl hlen rfl ?_
            refine rt_ico rfl ki_1 ?_
            refine ba_iadd rfl ?_
            rw [n_add]
            refine ow_pf (l2 := ((180, mcl (Int32.ofNat 0) (Int32.ofNat 0) n lim a pl (km kd) nm sg (Int32.ofNat 0) qm wd td (posn vs nn (o + 1) wi tp)) :: (181, mtl ts) :: [(182, ia nw), (187, lng nz), (202, ia nl)])) rfl rfl rfl rfl rfl hlen rfl rfl ?_
            refine rt_ald rfl l0 ?_
            refine RT_step (pc2 := 82) rfl (fun _ _ => rfl) ?_
            refine ow_gf rfl rfl rfl hlen rfl ?_
            refine rt_ico rfl ki_1 ?_
            refine ba_iadd rfl ?_
            rw [n_add]
            refine ow_pf (l2 := ((180, mcl (Int32.ofNat 0) (Int32.ofNat 0) n lim a pl (km kd) nm sg (Int32.ofNat 0) qm wd td (posn vs nn (o + 1) (wi + 1) tp)) :: (181, mtl ts) :: [(182, ia nw), (187, lng nz), (202, ia nl)])) rfl rfl rfl rfl rfl hlen rfl rfl ?_
            refine rt_ald rfl l0 ?_
            refine ow_iv0 (l2 := ((180, mcl (Int32.ofNat 0) (Int32.ofNat 0) n lim a1 pl1 (km kd1) nm1 sg1 (Int32.ofNat 0) qm1 wd1 td (posn vs nn (o + 1) (wi + 1) tp)) :: (181, mtl ts) :: [(182, ia nw), (187, lng nz), (202, ia nl)])) rfl rfl rfl rfl hlen rfl rfl rfl ((m1 _ (ov_hl hlen) (ov_at rfl (ov_lt hlen (by decide))) (ov_at rfl (ov_lt hlen (by decide)))).up (by omega)) rfl ?_
            refine rt_ico rfl ki_1 ?_
            refine rt_ist rfl (by decide +kernel) ?_
            refine rt_ild rfl (gs_o rfl l1 rfl) ?_
            refine bcF_eq rfl (by decide) ?_
            refine rt_ald rfl (gs_o rfl l0 rfl) ?_
            refine ow_iv1 (l2 := ((180, mcl (Int32.ofNat 0) (Int32.ofNat 0) n lim am9 fm9 kM9 nm9 sg9 fa9 qm9 wd9 td9 (posn vs nn2 o2 (wi + 1) tp2)) :: (181, mtl ts) :: [(182, ia nw), (187, lng nz), (202, ia nl2)])) rfl rfl rfl rfl hlen rfl rfl rfl (hy.up (by omega)) rfl ?_
            refine rt_ist rfl (by decide +kernel) ?_
            refine RT_step (pc2 := 166) rfl (fun _ _ => rfl) ?_
            refine rt_ald rfl (gs_o rfl (gs_o rfl l0 rfl) rfl) ?_
            refine RT_step (pc2 := 168) rfl (fun _ _ => rfl) ?_
            refine ow_gf rfl rfl rfl hlen rfl ?_
            refine rt_ico rfl ki_1 ?_
            refine ba_isub rfl ?_
            rw [n_sub (by omega), Nat.add_sub_cancel]
            refine ow_pf (l2 := ((180, mcl (Int32.ofNat 0) (Int32.ofNat 0) n lim am9 fm9 kM9 nm9 sg9 fa9 qm9 wd9 td9 (posn vs nn2 o2 wi tp2)) :: (181, mtl ts) :: [(182, ia nw), (187, lng nz), (202, ia nl2)])) rfl rfl rfl rfl rfl hlen rfl rfl ?_
            refine rt_ild rfl gs_n ?_
            exact ow_irt rfl rfl rfl
        | true =>
          obtain ⟨T, M, c3, hx, hm⟩ := mt gu
          obtain ⟨a3, kd3, pl3, w3, le3, nu3, fp3, nm3, sg3, qm3, wd3, rfl, rfl, t3⟩ := c3
          refine Or.inr ⟨(k2 + 1), tk2, td2, tcl n lim a3 kd3 pl3 w3 le3 nu3 tk2 (Int32.ofNat 0) fp3, mcl (Int32.ofNat 0) (Int32.ofNat 0) n lim a3 pl3 (km kd3) nm3 sg3 (Int32.ofNat 0) qm3 wd3 td2 (posn vs nn2 o2 wi tp2), o2, s2, nn2, tp2, ws2, sl2, nb2, nl2, (tf_td t3), by omega, by omega, by omega, by omega, ?_, ?_, fun H hlen => ?_, fun H hlen => ?_⟩
          · exact sx2
          · exact ln2
          · refine FR_st2 (l2 := ((1, tcl n lim a3 kd3 pl3 w3 le3 nu3 tk2 (Int32.ofNat 0) fp3) :: (2, bcl bs) :: [(13, dcl13 P Dn lw cl id gl bo), (14, lng pn), (15, ia ri), (16, ia lf), (17, ia wa), (18, ia fo), (19, lng dn), (20, ia ha), (21, ia pa), (22, ia bl), (115, .inr (7, [.int (Int32.ofNat o2), .int (Int32.ofNat s2), .ref 116, .ref 117, .ref 118, .ref 119])), (116, wrd ws2), (117, ia sl2), (118, ia nb2)])) rfl rfl rfl ?_
            refine RT_step (pc2 := 1) rfl (fun _ _ => rfl) ?_
            refine rt_bip rfl k8_40 ?_
            refine ow_iv1 (l2 := ((1, tcl n lim a kd pl w le nu tk (Int32.ofNat 0) fp) :: (2, bcl bs) :: [(13, dcl13 P Dn lw cl id gl bo), (14, lng pn), (15, ia ri), (16, ia lf), (17, ia wa), (18, ia fo), (19, lng dn), (20, ia ha), (21, ia pa), (22, ia bl), (115, .inr (7, [.int (Int32.ofNat o), .int (Int32.ofNat s), .ref 116, .ref 117, .ref 118, .ref 119])), (116, wrd ws), (117, ia sgl), (118, ia nbl)])) rfl rfl rfl rfl hlen rfl rfl rfl ((x_isMarkHere (ov_hl hlen) (ov_at rfl (ov_lt hlen (by decide))) hk5 (c := 40) (s := sv) (by decide) sv1 sv2).up (by omega)) rfl ?_
            rw [g]
            refine RT_step (pc2 := 8) rfl (fun _ _ => rfl) ?_
            refine RT_step (pc2 := 10) rfl (fun _ _ => rfl) ?_
            refine bcF_ne rfl (by decide) ?_
            refine RT_step (pc2 := 30) rfl (fun _ _ => rfl) ?_
            refine ow_gf rfl rfl rfl hlen rfl ?_
            refine rt_bip rfl k8_20 ?_
            refine biF_ge rfl (n_nle (by omega) (by omega)) ?_
            refine RT_step (pc2 := 39) rfl (fun _ _ => rfl) ?_
            refine rt_bip rfl k8_8 ?_
            refine biT_le rfl (n_le (by omega) (by omega)) ?_
            refine RT_step (pc2 := 51) rfl (fun _ _ => rfl) ?_
            refine RT_step (pc2 := 52) rfl (fun _ _ => rfl) ?_
            refine ow_gf rfl rfl rfl hlen rfl ?_
            refine rt_ico rfl ki_1 ?_
            refine ba_iadd rfl ?_
            rw [n_add]
            refine ow_pf (l2 := ((1, tcl n lim a kd pl w le nu tk (Int32.ofNat 0) fp) :: (2, bcl bs) :: [(13, dcl13 P Dn lw cl id gl bo), (14, lng pn), (15, ia ri), (16, ia lf), (17, ia wa), (18, ia fo), (19, lng dn), (20, ia ha), (21, ia pa), (22, ia bl), (115, .inr (7, [.int (Int32.ofNat (o + 1)), .int (Int32.ofNat s), .ref 116, .ref 117, .ref 118, .ref 119])), (116, wrd ws), (117, ia sgl), (118, ia nbl)])) rfl rfl rfl rfl rfl hlen rfl rfl ?_
            refine RT_step (pc2 := 61) rfl (fun _ _ => rfl) ?_
            refine ow_gf rfl rfl rfl hlen rfl ?_
            refine RT_step (pc2 := 66) rfl (fun _ _ => rfl) ?_
            refine RT_step (pc2 := 67) rfl (fun _ _ => rfl) ?_
            refine ow_iv0 (l2 := ((1, tcl n lim a1 kd1 pl1 w1 le1 nu1 tk (Int32.ofNat 0) fp1) :: (2, bcl bs) :: [(13, dcl13 P Dn lw cl id gl bo), (14, lng pn), (15, ia ri), (16, ia lf), (17, ia wa), (18, ia fo), (19, lng dn), (20, ia ha), (21, ia pa), (22, ia bl), (115, .inr (7, [.int (Int32.ofNat (o + 1)), .int (Int32.ofNat s), .ref 116, .ref 117, .ref 118, .ref 119])), (116, wrd ws), (117, ia sgl), (118, ia nbl)])) rfl rfl rfl rfl hlen rfl rfl rfl ((x1 _ (ov_hl hlen) (ov_at rfl (ov_lt hlen (by decide))) (ov_at rfl (ov_lt hlen (by decide)))).up (by omega)) rfl ?_
            refine RT_step (pc2 := 72) rfl (fun _ _ => rfl) ?_
            refine bcF_eq rfl (by decide) ?_
            refine RT_step (pc2 := 76) rfl (fun _ _ => rfl) ?_
            refine RT_step (pc2 := 77) rfl (fun _ _ => rfl) ?_
            refine RT_step (pc2 := 78) rfl (fun _ _ => rfl) ?_
            refine RT_step (pc2 := 79) rfl (fun _ _ => rfl) ?_
            refine rt_ico rfl ki_1 ?_
            refine ba_iadd rfl ?_
            rw [n_add]
            refine ow_iv1 (l2 := ((1, tcl n lim a2 kd2 pl2 w2 le2 nu2 tk2 (Int32.ofNat 0) fp2) :: (2, bcl bs) :: [(13, dcl13 P Dn lw cl id gl bo), (14, lng pn), (15, ia ri), (16, ia lf), (17, ia wa), (18, ia fo), (19, lng dn), (20, ia ha), (21, ia pa), (22, ia bl), (115, .inr (7, [.int (Int32.ofNat o2), .int (Int32.ofNat s2), .ref 116, .ref 117, .ref 118, .ref 119])), (116, wrd ws2), (117, ia sl2), (118, ia nb2)])) rfl rfl rfl rfl hlen rfl rfl rfl ((h.1 H hlen).up (by omega)) rfl ?_
            refine bcF_eq rfl (by decide) ?_
            refine RT_step (pc2 := 88) rfl (fun _ _ => rfl) ?_
            refine rt_bip rfl k8_41 ?_
            refine ow_iv1 (l2 := ((1, tcl n lim a3 kd3 pl3 w3 le3 nu3 tk2 (Int32.ofNat 0) fp3) :: (2, bcl bs) :: [(13, dcl13 P Dn lw cl id gl bo), (14, lng pn), (15, ia ri), (16, ia lf), (17, ia wa), (18, ia fo), (19, lng dn), (20, ia ha), (21, ia pa), (22, ia bl), (115, .inr (7, [.int (Int32.ofNat o2), .int (Int32.ofNat s2), .ref 116, .ref 117, .ref 118, .ref 119])), (116, wrd ws2), (117, ia sl2), (118, ia nb2)])) rfl rfl rfl rfl hlen rfl rfl rfl ((hx _ (ov_hl hlen) (ov_at rfl (ov_lt hlen (by decide))) (ov_at rfl (ov_lt hlen (by decide)))).up (by omega)) rfl ?_
            refine bcF_eq rfl (by decide) ?_
            refine rt_ico rfl ki_1 ?_
            refine RT_step (pc2 := 101) rfl (fun _ _ => rfl) ?_
            exact ow_irt rfl rfl rfl
          · have hy : FR (KY + 5) 247 [.ref 180] (ov H ((180, mcl (Int32.ofNat 0) (Int32.ofNat 0) n lim a1 pl1 (km kd1) nm1 sg1 (Int32.ofNat 0) qm1 wd1 td (posn vs nn (o + 1) (wi + 1) tp)) :: (181, mtl ts) :: [(182, ia nw), (187, lng nz), (202, ia nl)])) (some (.int (Int32.ofNat 1)), ov (ov H ((180, mcl (Int32.ofNat 0) (Int32.ofNat 0) n lim a1 pl1 (km kd1) nm1 sg1 (Int32.ofNat 0) qm1 wd1 td (posn vs nn (o + 1) (wi + 1) tp)) :: (181, mtl ts) :: [(182, ia nw), (187, lng nz), (202, ia nl)])) [(180, mcl (Int32.ofNat 0) (Int32.ofNat 0) n lim a3 pl3 (km kd3) nm3 sg3 (Int32.ofNat 0) qm3 wd3 td2 (posn vs nn2 o2 (wi + 1) tp2)), (202, ia nl2)]) := by
              refine FR_st2 (l2 := ((180, mcl (Int32.ofNat 0) (Int32.ofNat 0) n lim a3 pl3 (km kd3) nm3 sg3 (Int32.ofNat 0) qm3 wd3 td2 (posn vs nn2 o2 (wi + 1) tp2)) :: (181, mtl ts) :: [(182, ia nw), (187, lng nz), (202, ia nl2)])) rfl rfl rfl ?_
              refine RT_step (pc2 := 1) rfl (fun _ _ => rfl) ?_
              refine ow_iv1 (l2 := ((180, mcl (Int32.ofNat 0) (Int32.ofNat 0) n lim a2 pl2 (km kd2) nm2 sg2 (Int32.ofNat 0) qm2 wd2 td2 (posn vs nn2 o2 (wi + 1) tp2)) :: (181, mtl ts) :: [(182, ia nw), (187, lng nz), (202, ia nl2)])) rfl rfl rfl rfl hlen rfl rfl rfl ((h.2 H hlen).up (by omega)) rfl ?_
              refine bcF_ne rfl (by decide) ?_
              refine RT_step (pc2 := 10) rfl (fun _ _ => rfl) ?_
              refine rt_bip rfl k8_41 ?_
              refine ow_iv1 (l2 := ((180, mcl (Int32.ofNat 0) (Int32.ofNat 0) n lim a2 pl2 (km kd2) nm2 sg2 (Int32.ofNat 0) qm2 wd2 td2 (posn vs nn2 o2 (wi + 1) tp2)) :: (181, mtl ts) :: [(182, ia nw), (187, lng nz), (202, ia nl2)])) rfl rfl rfl rfl hlen rfl rfl rfl ((m_isSign (ov_hl hlen) (ov_at rfl (ov_lt hlen (by decide))) hk2 (c := 41) (s := su) (by decide) su1 su3).up (by omega)) rfl ?_
              refine bcF_ne rfl (b01_t ((bu 41).trans gu)) ?_
              refine RT_step (pc2 := 25) rfl (fun _ _ => rfl) ?_
              refine ow_iv0 (l2 := ((180, mcl (Int32.ofNat 0) (Int32.ofNat 0) n lim a3 pl3 (km kd3) nm3 sg3 (Int32.ofNat 0) qm3 wd3 td2 (posn vs nn2 o2 (wi + 1) tp2)) :: (181, mtl ts) :: [(182, ia nw), (187, lng nz), (202, ia nl2)])) rfl rfl rfl rfl hlen rfl rfl rfl ((hm _ (ov_hl hlen) (ov_at rfl (ov_lt hlen (by decide))) (ov_at rfl (ov_lt hlen (by decide)))).up (by omega)) rfl ?_
              refine rt_ico rfl ki_1 ?_
              exact ow_irt rfl rfl rfl
            refine FR_st2 (l2 := ((180, mcl (Int32.ofNat 0) (Int32.ofNat 0) n lim a3 pl3 (km kd3) nm3 sg3 (Int32.ofNat 0) qm3 wd3 td2 (posn vs nn2 o2 wi tp2)) :: (181, mtl ts) :: [(182, ia nw), (187, lng nz), (202, ia nl2)])) rfl rfl rfl ?_
            refine RT_step (pc2 := 1) rfl (fun _ _ => rfl) ?_
            refine rt_bip rfl k8_40 ?_
            refine ow_iv1 (l2 := ((180, mcl (Int32.ofNat 0) (Int32.ofNat 0) n lim a pl (km kd) nm sg (Int32.ofNat 0) qm wd td (posn vs nn o wi tp)) :: (181, mtl ts) :: [(182, ia nw), (187, lng nz), (202, ia nl)])) rfl rfl rfl rfl hlen rfl rfl rfl ((m_isSign (ov_hl hlen) (ov_at rfl (ov_lt hlen (by decide))) hk (c := 40) (s := sv) (by decide) sv1 sv3).up (by omega)) rfl ?_
            refine RT_step (pc2 := 7) rfl (fun _ _ => rfl) ?_
            rw [bq, g]
            refine rt_bip rfl k8_19 ?_
            refine RT_step (pc2 := 10) rfl (fun _ _ => rfl) ?_
            refine m_wl (z := b01 true) hlen hk 11 19 _ rfl rfl rfl rfl (fun L2 l0 l1 l2 => ?_)
            rw [wj_eq t 11 19 rfl] at l2
            refine rt_ild rfl l1 ?_
            refine bcF_ne rfl (by decide) ?_
            refine rt_ald rfl l0 ?_
            refine ow_gf rfl rfl rfl hlen rfl ?_
            refine rt_bip rfl k8_20 ?_
            refine biF_eq rfl (n_ne (by omega) (by omega) (by omega)) ?_
            refine rt_ald rfl l0 ?_
            refine ow_gf rfl rfl rfl hlen rfl ?_
            refine rt_bip rfl k8_8 ?_
            refine biF_ne rfl (n_ne (by omega) (by omega) (by omega)) ?_
            refine rt_ald rfl l0 ?_
            refine RT_step (pc2 := 72) rfl (fun _ _ => rfl) ?_
            refine ow_gf rfl rfl rfl hlen rfl ?_
            refine rt_ico rfl ki_1 ?_
            refine ba_iadd rfl ?_
            rw [n_add]
            refine ow_pf (l2 := ((180, mcl (Int32.ofNat 0) (Int32.ofNat 0) n lim a pl (km kd) nm sg (Int32.ofNat 0) qm wd td (posn vs nn (o + 1) wi tp)) :: (181, mtl ts) :: [(182, ia nw), (187, lng nz), (202, ia nl)])) rfl rfl rfl rfl rfl hlen rfl rfl ?_
            refine rt_ald rfl l0 ?_
            refine RT_step (pc2 := 82) rfl (fun _ _ => rfl) ?_
            refine ow_gf rfl rfl rfl hlen rfl ?_
            refine rt_ico rfl ki_1 ?_
            refine ba_iadd rfl ?_
            rw [n_add]
            refine ow_pf (l2 := ((180, mcl (Int32.ofNat 0) (Int32.ofNat 0) n lim a pl (km kd) nm sg (Int32.ofNat 0) qm wd td (posn vs nn (o + 1) (wi + 1) tp)) :: (181, mtl ts) :: [(182, ia nw), (187, lng nz), (202, ia nl)])) rfl rfl rfl rfl rfl hlen rfl rfl ?_
            refine rt_ald rfl l0 ?_
            refine ow_iv0 (l2 := ((180, mcl (Int32.ofNat 0) (Int32.ofNat 0) n lim a1 pl1 (km kd1) nm1 sg1 (Int32.ofNat 0) qm1 wd1 td (posn vs nn (o + 1) (wi + 1) tp)) :: (181, mtl ts) :: [(182, ia nw), (187, lng nz), (202, ia nl)])) rfl rfl rfl rfl hlen rfl rfl rfl ((m1 _ (ov_hl hlen) (ov_at rfl (ov_lt hlen (by decide))) (ov_at rfl (ov_lt hlen (by decide)))).up (by omega)) rfl ?_
            refine rt_ico rfl ki_1 ?_
            refine rt_ist rfl (by decide +kernel) ?_
            refine rt_ild rfl (gs_o rfl l1 rfl) ?_
            refine bcF_eq rfl (by decide) ?_
            refine rt_ald rfl (gs_o rfl l0 rfl) ?_
            refine ow_iv1 (l2 := ((180, mcl (Int32.ofNat 0) (Int32.ofNat 0) n lim a3 pl3 (km kd3) nm3 sg3 (Int32.ofNat 0) qm3 wd3 td2 (posn vs nn2 o2 (wi + 1) tp2)) :: (181, mtl ts) :: [(182, ia nw), (187, lng nz), (202, ia nl2)])) rfl rfl rfl rfl hlen rfl rfl rfl (hy.up (by omega)) rfl ?_
            refine rt_ist rfl (by decide +kernel) ?_
            refine RT_step (pc2 := 166) rfl (fun _ _ => rfl) ?_
            refine rt_ald rfl (gs_o rfl (gs_o rfl l0 rfl) rfl) ?_
            refine RT_step (pc2 := 168) rfl (fun _ _ => rfl) ?_
            refine ow_gf rfl rfl rfl hlen rfl ?_
            refine rt_ico rfl ki_1 ?_
            refine ba_isub rfl ?_
            rw [n_sub (by omega), Nat.add_sub_cancel]
            refine ow_pf (l2 := ((180, mcl (Int32.ofNat 0) (Int32.ofNat 0) n lim a3 pl3 (km kd3) nm3 sg3 (Int32.ofNat 0) qm3 wd3 td2 (posn vs nn2 o2 wi tp2)) :: (181, mtl ts) :: [(182, ia nw), (187, lng nz), (202, ia nl2)])) rfl rfl rfl rfl rfl hlen rfl rfl ?_
            refine rt_ild rfl gs_n ?_
            exact ow_irt rfl rfl rfl
  | false =>
    rcases wb_cases w hw with ⟨jw, sw⟩ | ⟨jw, cw⟩ | ⟨jw, cw⟩ | ⟨j, j1, j2, jw, cw⟩ | ⟨j, j1, j2, jw, cw⟩
    · obtain ⟨T, M, f, hx, hm⟩ := s_ref (bs := bs) (ts := ts) (lim := lim) (po := (posn vs nn o wi tp)) (pl := pl) (tk := tk) (td := td) (fp := fp) (plM := qm) t (kk := 1) (by decide) (by decide) (Or.inr rfl)
      refine Or.inl ⟨T, M, o, s, nn, tp, ws, sgl, nbl, nl, f, sx, fun H hlen => ?_, fun H hlen => ?_⟩
      · refine FR_st2 (l2 := ((1, T) :: (2, bcl bs) :: [(13, dcl13 P Dn lw cl id gl bo), (14, lng pn), (15, ia ri), (16, ia lf), (17, ia wa), (18, ia fo), (19, lng dn), (20, ia ha), (21, ia pa), (22, ia bl), (115, .inr (7, [.int (Int32.ofNat o), .int (Int32.ofNat s), .ref 116, .ref 117, .ref 118, .ref 119])), (116, wrd ws), (117, ia sgl), (118, ia nbl)])) rfl rfl rfl ?_
        refine RT_step (pc2 := 1) rfl (fun _ _ => rfl) ?_
        refine rt_bip rfl k8_40 ?_
        refine ow_iv1 (l2 := ((1, tcl n lim a kd pl w le nu tk (Int32.ofNat 0) fp) :: (2, bcl bs) :: [(13, dcl13 P Dn lw cl id gl bo), (14, lng pn), (15, ia ri), (16, ia lf), (17, ia wa), (18, ia fo), (19, lng dn), (20, ia ha), (21, ia pa), (22, ia bl), (115, .inr (7, [.int (Int32.ofNat o), .int (Int32.ofNat s), .ref 116, .ref 117, .ref 118, .ref 119])), (116, wrd ws), (117, ia sgl), (118, ia nbl)])) rfl rfl rfl rfl hlen rfl rfl rfl ((x_isMarkHere (ov_hl hlen) (ov_at rfl (ov_lt hlen (by decide))) hk5 (c := 40) (s := sv) (by decide) sv1 sv2).up (by omega)) rfl ?_
        rw [g]
        refine RT_step (pc2 := 8) rfl (fun _ _ => rfl) ?_
        refine RT_step (pc2 := 10) rfl (fun _ _ => rfl) ?_
        refine bcT_ne rfl rfl ?_
        refine RT_step (pc2 := 14) rfl (fun _ _ => rfl) ?_
        refine ow_gf rfl rfl rfl hlen rfl ?_
        refine ow_is1 (l2 := ((1, tcl n lim a kd pl w le nu tk (Int32.ofNat 0) fp) :: (2, bcl bs) :: [(13, dcl13 P Dn lw cl id gl bo), (14, lng pn), (15, ia ri), (16, ia lf), (17, ia wa), (18, ia fo), (19, lng dn), (20, ia ha), (21, ia pa), (22, ia bl), (115, .inr (7, [.int (Int32.ofNat o), .int (Int32.ofNat s), .ref 116, .ref 117, .ref 118, .ref 119])), (116, wrd ws), (117, ia sgl), (118, ia nbl)])) rfl rfl rfl rfl rfl ((x_beg_f (H := ov H ((1, tcl n lim a kd pl w le nu tk (Int32.ofNat 0) fp) :: (2, bcl bs) :: [(13, dcl13 P Dn lw cl id gl bo), (14, lng pn), (15, ia ri), (16, ia lf), (17, ia wa), (18, ia fo), (19, lng dn), (20, ia ha), (21, ia pa), (22, ia bl), (115, .inr (7, [.int (Int32.ofNat o), .int (Int32.ofNat s), .ref 116, .ref 117, .ref 118, .ref 119])), (116, wrd ws), (117, ia sgl), (118, ia nbl)])) hw sw).up (by omega)) rfl ?_
        refine bcT_ne rfl rfl ?_
        refine RT_step (pc2 := 24) rfl (fun _ _ => rfl) ?_
        refine rt_ico rfl ki_1 ?_
        refine ow_iv1 (l2 := ((1, T) :: (2, bcl bs) :: [(13, dcl13 P Dn lw cl id gl bo), (14, lng pn), (15, ia ri), (16, ia lf), (17, ia wa), (18, ia fo), (19, lng dn), (20, ia ha), (21, ia pa), (22, ia bl), (115, .inr (7, [.int (Int32.ofNat o), .int (Int32.ofNat s), .ref 116, .ref 117, .ref 118, .ref 119])), (116, wrd ws), (117, ia sgl), (118, ia nbl)])) rfl rfl rfl rfl hlen rfl rfl rfl ((hx _ (ov_hl hlen) (ov_at rfl (ov_lt hlen (by decide))) (ov_at rfl (ov_lt hlen (by decide)))).up (by omega)) rfl ?_
        exact ow_irt rfl rfl rfl
      · refine FR_st2 (l2 := ((180, M) :: (181, mtl ts) :: [(182, ia nw), (187, lng nz), (202, ia nl)])) rfl rfl rfl ?_
        refine RT_step (pc2 := 1) rfl (fun _ _ => rfl) ?_
        refine rt_bip rfl k8_40 ?_
        refine ow_iv1 (l2 := ((180, mcl (Int32.ofNat 0) (Int32.ofNat 0) n lim a pl (km kd) nm sg (Int32.ofNat 0) qm wd td (posn vs nn o wi tp)) :: (181, mtl ts) :: [(182, ia nw), (187, lng nz), (202, ia nl)])) rfl rfl rfl rfl hlen rfl rfl rfl ((m_isSign (ov_hl hlen) (ov_at rfl (ov_lt hlen (by decide))) hk (c := 40) (s := sv) (by decide) sv1 sv3).up (by omega)) rfl ?_
        refine RT_step (pc2 := 7) rfl (fun _ _ => rfl) ?_
        rw [bq, g]
        refine rt_bip rfl k8_19 ?_
        refine RT_step (pc2 := 10) rfl (fun _ _ => rfl) ?_
        refine m_wl (z := b01 false) hlen hk 11 19 _ rfl rfl rfl rfl (fun L2 l0 l1 l2 => ?_)
        rw [wj_eq t 11 19 rfl, jw] at l2
        refine rt_ild rfl l1 ?_
        refine bcT_ne rfl rfl ?_
        refine rt_ild rfl l2 ?_
        refine rt_bip rfl k8_29 ?_
        refine biF_le rfl (n_nle (by omega) (by omega)) ?_
        refine rt_ald rfl l0 ?_
        refine rt_ico rfl ki_1 ?_
        refine ow_iv1 (l2 := ((180, M) :: (181, mtl ts) :: [(182, ia nw), (187, lng nz), (202, ia nl)])) rfl rfl rfl rfl hlen rfl rfl rfl ((hm _ (ov_hl hlen) (ov_at rfl (ov_lt hlen (by decide))) (ov_at rfl (ov_lt hlen (by decide)))).up (by omega)) rfl ?_
        exact ow_irt rfl rfl rfl
    · subst cw
      have hk1 := w_k1 t (by omega)
      by_cases cf : o = 20 ∨ wi = 8
      · obtain ⟨T, M, f, hx, hm⟩ := s_ref (bs := bs) (ts := ts) (lim := lim) (po := (posn vs nn o wi tp)) (pl := pl) (tk := tk) (td := td) (fp := fp) (plM := qm) t (kk := 4) (by decide) (by decide) (Or.inl (by omega))
        refine Or.inl ⟨T, M, o, s, nn, tp, ws, sgl, nbl, nl, f, sx, ?_⟩
        by_cases co : o = 20
        · refine ⟨fun H hlen => ?_, fun H hlen => ?_⟩
          · refine FR_st2 (l2 := ((1, T) :: (2, bcl bs) :: [(13, dcl13 P Dn lw cl id gl bo), (14, lng pn), (15, ia ri), (16, ia lf), (17, ia wa), (18, ia fo), (19, lng dn), (20, ia ha), (21, ia pa), (22, ia bl), (115, .inr (7, [.int (Int32.ofNat o), .int (Int32.ofNat s), .ref 116, .ref 117, .ref 118, .ref 119])), (116, wrd ws), (117, ia sgl), (118, ia nbl)])) rfl rfl rfl ?_
            refine RT_step (pc2 := 1) rfl (fun _ _ => rfl) ?_
            refine rt_bip rfl k8_40 ?_
            refine ow_iv1 (l2 := ((1, tcl n lim a kd pl 22 le nu tk (Int32.ofNat 0) fp) :: (2, bcl bs) :: [(13, dcl13 P Dn lw cl id gl bo), (14, lng pn), (15, ia ri), (16, ia lf), (17, ia wa), (18, ia fo), (19, lng dn), (20, ia ha), (21, ia pa), (22, ia bl), (115, .inr (7, [.int (Int32.ofNat o), .int (Int32.ofNat s), .ref 116, .ref 117, .ref 118, .ref 119])), (116, wrd ws), (117, ia sgl), (118, ia nbl)])) rfl rfl rfl rfl hlen rfl rfl rfl ((x_isMarkHere (ov_hl hlen) (ov_at rfl (ov_lt hlen (by decide))) hk5 (c := 40) (s := sv) (by decide) sv1 sv2).up (by omega)) rfl ?_
            rw [g]
            refine RT_step (pc2 := 8) rfl (fun _ _ => rfl) ?_
            refine RT_step (pc2 := 10) rfl (fun _ _ => rfl) ?_
            refine bcT_ne rfl rfl ?_
            refine RT_step (pc2 := 14) rfl (fun _ _ => rfl) ?_
            refine ow_gf rfl rfl rfl hlen rfl ?_
            refine ow_is1 (l2 := ((1, tcl n lim a kd pl 22 le nu tk (Int32.ofNat 0) fp) :: (2, bcl bs) :: [(13, dcl13 P Dn lw cl id gl bo), (14, lng pn), (15, ia ri), (16, ia lf), (17, ia wa), (18, ia fo), (19, lng dn), (20, ia ha), (21, ia pa), (22, ia bl), (115, .inr (7, [.int (Int32.ofNat o), .int (Int32.ofNat s), .ref 116, .ref 117, .ref 118, .ref 119])), (116, wrd ws), (117, ia sgl), (118, ia nbl)])) rfl rfl rfl rfl rfl ((x_beg_t (H := ov H ((1, tcl n lim a kd pl 22 le nu tk (Int32.ofNat 0) fp) :: (2, bcl bs) :: [(13, dcl13 P Dn lw cl id gl bo), (14, lng pn), (15, ia ri), (16, ia lf), (17, ia wa), (18, ia fo), (19, lng dn), (20, ia ha), (21, ia pa), (22, ia bl), (115, .inr (7, [.int (Int32.ofNat o), .int (Int32.ofNat s), .ref 116, .ref 117, .ref 118, .ref 119])), (116, wrd ws), (117, ia sgl), (118, ia nbl)])) (Or.inl rfl)).up (by omega)) rfl ?_
            refine bcF_ne rfl (by decide) ?_
            refine RT_step (pc2 := 30) rfl (fun _ _ => rfl) ?_
            refine ow_gf rfl rfl rfl hlen rfl ?_
            refine rt_bip rfl k8_20 ?_
            refine biT_ge rfl (n_le (by omega) (by omega)) ?_
            refine RT_step (pc2 := 45) rfl (fun _ _ => rfl) ?_
            refine rt_ico rfl ki_4 ?_
            refine ow_iv1 (l2 := ((1, T) :: (2, bcl bs) :: [(13, dcl13 P Dn lw cl id gl bo), (14, lng pn), (15, ia ri), (16, ia lf), (17, ia wa), (18, ia fo), (19, lng dn), (20, ia ha), (21, ia pa), (22, ia bl), (115, .inr (7, [.int (Int32.ofNat o), .int (Int32.ofNat s), .ref 116, .ref 117, .ref 118, .ref 119])), (116, wrd ws), (117, ia sgl), (118, ia nbl)])) rfl rfl rfl rfl hlen rfl rfl rfl ((hx _ (ov_hl hlen) (ov_at rfl (ov_lt hlen (by decide))) (ov_at rfl (ov_lt hlen (by decide)))).up (by omega)) rfl ?_
            exact ow_irt rfl rfl rfl
          · refine FR_st2 (l2 := ((180, M) :: (181, mtl ts) :: [(182, ia nw), (187, lng nz), (202, ia nl)])) rfl rfl rfl ?_
            refine RT_step (pc2 := 1) rfl (fun _ _ => rfl) ?_
            refine rt_bip rfl k8_40 ?_
            refine ow_iv1 (l2 := ((180, mcl (Int32.ofNat 0) (Int32.ofNat 0) n lim a pl (km kd) nm sg (Int32.ofNat 0) qm wd td (posn vs nn o wi tp)) :: (181, mtl ts) :: [(182, ia nw), (187, lng nz), (202, ia nl)])) rfl rfl rfl rfl hlen rfl rfl rfl ((m_isSign (ov_hl hlen) (ov_at rfl (ov_lt hlen (by decide))) hk (c := 40) (s := sv) (by decide) sv1 sv3).up (by omega)) rfl ?_
            refine RT_step (pc2 := 7) rfl (fun _ _ => rfl) ?_
            rw [bq, g]
            refine rt_bip rfl k8_19 ?_
            refine RT_step (pc2 := 10) rfl (fun _ _ => rfl) ?_
            refine m_wl (z := b01 false) hlen hk 11 19 _ rfl rfl rfl rfl (fun L2 l0 l1 l2 => ?_)
            rw [wj_eq t 11 19 rfl, jw] at l2
            refine rt_ild rfl l1 ?_
            refine bcT_ne rfl rfl ?_
            refine rt_ild rfl l2 ?_
            refine rt_bip rfl k8_29 ?_
            refine biT_le rfl (n_le (by omega) (by omega)) ?_
            refine rt_ald rfl l0 ?_
            refine ow_gf rfl rfl rfl hlen rfl ?_
            refine rt_bip rfl k8_20 ?_
            refine biT_eq rfl (n_eq co) ?_
            refine rt_ald rfl l0 ?_
            refine rt_ico rfl ki_4 ?_
            refine ow_iv1 (l2 := ((180, M) :: (181, mtl ts) :: [(182, ia nw), (187, lng nz), (202, ia nl)])) rfl rfl rfl rfl hlen rfl rfl rfl ((hm _ (ov_hl hlen) (ov_at rfl (ov_lt hlen (by decide))) (ov_at rfl (ov_lt hlen (by decide)))).up (by omega)) rfl ?_
            exact ow_irt rfl rfl rfl
        · refine ⟨fun H hlen => ?_, fun H hlen => ?_⟩
          · refine FR_st2 (l2 := ((1, T) :: (2, bcl bs) :: [(13, dcl13 P Dn lw cl id gl bo), (14, lng pn), (15, ia ri), (16, ia lf), (17, ia wa), (18, ia fo), (19, lng dn), (20, ia ha), (21, ia pa), (22, ia bl), (115, .inr (7, [.int (Int32.ofNat o), .int (Int32.ofNat s), .ref 116, .ref 117, .ref 118, .ref 119])), (116, wrd ws), (117, ia sgl), (118, ia nbl)])) rfl rfl rfl ?_
            refine RT_step (pc2 := 1) rfl (fun _ _ => rfl) ?_
            refine rt_bip rfl k8_40 ?_
            refine ow_iv1 (l2 := ((1, tcl n lim a kd pl 22 le nu tk (Int32.ofNat 0) fp) :: (2, bcl bs) :: [(13, dcl13 P Dn lw cl id gl bo), (14, lng pn), (15, ia ri), (16, ia lf), (17, ia wa), (18, ia fo), (19, lng dn), (20, ia ha), (21, ia pa), (22, ia bl), (115, .inr (7, [.int (Int32.ofNat o), .int (Int32.ofNat s), .ref 116, .ref 117, .ref 118, .ref 119])), (116, wrd ws), (117, ia sgl), (118, ia nbl)])) rfl rfl rfl rfl hlen rfl rfl rfl ((x_isMarkHere (ov_hl hlen) (ov_at rfl (ov_lt hlen (by decide))) hk5 (c := 40) (s := sv) (by decide) sv1 sv2).up (by omega)) rfl ?_
            rw [g]
            refine RT_step (pc2 := 8) rfl (fun _ _ => rfl) ?_
            refine RT_step (pc2 := 10) rfl (fun _ _ => rfl) ?_
            refine bcT_ne rfl rfl ?_
            refine RT_step (pc2 := 14) rfl (fun _ _ => rfl) ?_
            refine ow_gf rfl rfl rfl hlen rfl ?_
            refine ow_is1 (l2 := ((1, tcl n lim a kd pl 22 le nu tk (Int32.ofNat 0) fp) :: (2, bcl bs) :: [(13, dcl13 P Dn lw cl id gl bo), (14, lng pn), (15, ia ri), (16, ia lf), (17, ia wa), (18, ia fo), (19, lng dn), (20, ia ha), (21, ia pa), (22, ia bl), (115, .inr (7, [.int (Int32.ofNat o), .int (Int32.ofNat s), .ref 116, .ref 117, .ref 118, .ref 119])), (116, wrd ws), (117, ia sgl), (118, ia nbl)])) rfl rfl rfl rfl rfl ((x_beg_t (H := ov H ((1, tcl n lim a kd pl 22 le nu tk (Int32.ofNat 0) fp) :: (2, bcl bs) :: [(13, dcl13 P Dn lw cl id gl bo), (14, lng pn), (15, ia ri), (16, ia lf), (17, ia wa), (18, ia fo), (19, lng dn), (20, ia ha), (21, ia pa), (22, ia bl), (115, .inr (7, [.int (Int32.ofNat o), .int (Int32.ofNat s), .ref 116, .ref 117, .ref 118, .ref 119])), (116, wrd ws), (117, ia sgl), (118, ia nbl)])) (Or.inl rfl)).up (by omega)) rfl ?_
            refine bcF_ne rfl (by decide) ?_
            refine RT_step (pc2 := 30) rfl (fun _ _ => rfl) ?_
            refine ow_gf rfl rfl rfl hlen rfl ?_
            refine rt_bip rfl k8_20 ?_
            refine biF_ge rfl (n_nle (by omega) (by omega)) ?_
            refine RT_step (pc2 := 39) rfl (fun _ _ => rfl) ?_
            refine rt_bip rfl k8_8 ?_
            refine biF_le rfl (n_nle (by omega) (by omega)) ?_
            refine RT_step (pc2 := 45) rfl (fun _ _ => rfl) ?_
            refine rt_ico rfl ki_4 ?_
            refine ow_iv1 (l2 := ((1, T) :: (2, bcl bs) :: [(13, dcl13 P Dn lw cl id gl bo), (14, lng pn), (15, ia ri), (16, ia lf), (17, ia wa), (18, ia fo), (19, lng dn), (20, ia ha), (21, ia pa), (22, ia bl), (115, .inr (7, [.int (Int32.ofNat o), .int (Int32.ofNat s), .ref 116, .ref 117, .ref 118, .ref 119])), (116, wrd ws), (117, ia sgl), (118, ia nbl)])) rfl rfl rfl rfl hlen rfl rfl rfl ((hx _ (ov_hl hlen) (ov_at rfl (ov_lt hlen (by decide))) (ov_at rfl (ov_lt hlen (by decide)))).up (by omega)) rfl ?_
            exact ow_irt rfl rfl rfl
          · refine FR_st2 (l2 := ((180, M) :: (181, mtl ts) :: [(182, ia nw), (187, lng nz), (202, ia nl)])) rfl rfl rfl ?_
            refine RT_step (pc2 := 1) rfl (fun _ _ => rfl) ?_
            refine rt_bip rfl k8_40 ?_
            refine ow_iv1 (l2 := ((180, mcl (Int32.ofNat 0) (Int32.ofNat 0) n lim a pl (km kd) nm sg (Int32.ofNat 0) qm wd td (posn vs nn o wi tp)) :: (181, mtl ts) :: [(182, ia nw), (187, lng nz), (202, ia nl)])) rfl rfl rfl rfl hlen rfl rfl rfl ((m_isSign (ov_hl hlen) (ov_at rfl (ov_lt hlen (by decide))) hk (c := 40) (s := sv) (by decide) sv1 sv3).up (by omega)) rfl ?_
            refine RT_step (pc2 := 7) rfl (fun _ _ => rfl) ?_
            rw [bq, g]
            refine rt_bip rfl k8_19 ?_
            refine RT_step (pc2 := 10) rfl (fun _ _ => rfl) ?_
            refine m_wl (z := b01 false) hlen hk 11 19 _ rfl rfl rfl rfl (fun L2 l0 l1 l2 => ?_)
            rw [wj_eq t 11 19 rfl, jw] at l2
            refine rt_ild rfl l1 ?_
            refine bcT_ne rfl rfl ?_
            refine rt_ild rfl l2 ?_
            refine rt_bip rfl k8_29 ?_
            refine biT_le rfl (n_le (by omega) (by omega)) ?_
            refine rt_ald rfl l0 ?_
            refine ow_gf rfl rfl rfl hlen rfl ?_
            refine rt_bip rfl k8_20 ?_
            refine biF_eq rfl (n_ne co (by omega) (by omega)) ?_
            refine rt_ald rfl l0 ?_
            refine ow_gf rfl rfl rfl hlen rfl ?_
            refine rt_bip rfl k8_8 ?_
            refine biT_ne rfl (n_eq (by omega)) ?_
            refine rt_ald rfl l0 ?_
            refine rt_ico rfl ki_4 ?_
            refine ow_iv1 (l2 := ((180, M) :: (181, mtl ts) :: [(182, ia nw), (187, lng nz), (202, ia nl)])) rfl rfl rfl rfl hlen rfl rfl rfl ((hm _ (ov_hl hlen) (ov_at rfl (ov_lt hlen (by decide))) (ov_at rfl (ov_lt hlen (by decide)))).up (by omega)) rfl ?_
            exact ow_irt rfl rfl rfl
      · obtain ⟨T1, M1, c1, x1, m1⟩ := s_adv hB hM hb hn hl (po := (posn vs nn (o + 1) (wi + 1) tp)) (pl := pl) (tk := tk) (td := td) (fp := fp) (plM := qm) t (by omega) (by omega)
        obtain ⟨a1, kd1, pl1, w1, le1, nu1, fp1, nm1, sg1, qm1, wd1, rfl, rfl, t1⟩ := c1
        rcases hO (by omega) _ a1 kd1 pl1 w1 le1 nu1 tk td fp1 nm1 sg1 qm1 wd1 (o + 1) s nn tp ws sgl nbl nl t1 (by omega) (by omega) htp sx ln with ⟨T, M, o2, s2, nn2, tp2, ws2, sl2, nb2, nl2, f, sx2, h⟩ | ⟨k2, tk2, td2, T2, M2, o2, s2, nn2, tp2, ws2, sl2, nb2, nl2, c2, o1, o2b, on, tp2b, sx2, ln2, h⟩
        · have f0 := f
          obtain ⟨a9, kd9, pl9, w9, le9, nu9, tk9, kk9, am9, fm9, kM9, nm9, sg9, fa9, qm9, wd9, td9, rfl, rfl, f9⟩ := f
          obtain ⟨s3, ws3, sl3, nb3, sx3, hadd⟩ := sx_add115 sx2 (w := 22) (by decide) (Int32.ofNat 0) (Int32.ofNat 0)
          refine Or.inl ⟨tcl n lim a9 kd9 pl9 w9 le9 nu9 tk9 (Int32.ofNat kk9) (Int32.ofNat pl9), mcl (Int32.ofNat 0) (Int32.ofNat 0) n lim am9 fm9 kM9 nm9 sg9 fa9 qm9 wd9 td9 (posn vs nn2 o2 wi tp2), o2, s3, nn2, tp2, ws3, sl3, nb3, nl2, ⟨a9, kd9, pl9, w9, le9, nu9, tk9, kk9, am9, fm9, kM9, nm9, sg9, fa9, qm9, wd9, td9, rfl, rfl, f9⟩, sx3, fun H hlen => ?_, fun H hlen => ?_⟩
          · refine FR_st2 (l2 := ((1, tcl n lim a9 kd9 pl9 w9 le9 nu9 tk9 (Int32.ofNat kk9) (Int32.ofNat pl9)) :: (2, bcl bs) :: [(13, dcl13 P Dn lw cl id gl bo), (14, lng pn), (15, ia ri), (16, ia lf), (17, ia wa), (18, ia fo), (19, lng dn), (20, ia ha), (21, ia pa), (22, ia bl), (115, .inr (7, [.int (Int32.ofNat o2), .int (Int32.ofNat s3), .ref 116, .ref 117, .ref 118, .ref 119])), (116, wrd ws3), (117, ia sl3), (118, ia nb3)])) rfl rfl rfl ?_
            refine RT_step (pc2 := 1) rfl (fun _ _ => rfl) ?_
            refine rt_bip rfl k8_40 ?_
            refine ow_iv1 (l2 := ((1, tcl n lim a kd pl 22 le nu tk (Int32.ofNat 0) fp) :: (2, bcl bs) :: [(13, dcl13 P Dn lw cl id gl bo), (14, lng pn), (15, ia ri), (16, ia lf), (17, ia wa), (18, ia fo), (19, lng dn), (20, ia ha), (21, ia pa), (22, ia bl), (115, .inr (7, [.int (Int32.ofNat o), .int (Int32.ofNat s), .ref 116, .ref 117, .ref 118, .ref 119])), (116, wrd ws), (117, ia sgl), (118, ia nbl)])) rfl rfl rfl rfl hlen rfl rfl rfl ((x_isMarkHere (ov_hl hlen) (ov_at rfl (ov_lt hlen (by decide))) hk5 (c := 40) (s := sv) (by decide) sv1 sv2).up (by omega)) rfl ?_
            rw [g]
            refine RT_step (pc2 := 8) rfl (fun _ _ => rfl) ?_
            refine RT_step (pc2 := 10) rfl (fun _ _ => rfl) ?_
            refine bcT_ne rfl rfl ?_
            refine RT_step (pc2 := 14) rfl (fun _ _ => rfl) ?_
            refine ow_gf rfl rfl rfl hlen rfl ?_
            refine ow_is1 (l2 := ((1, tcl n lim a kd pl 22 le nu tk (Int32.ofNat 0) fp) :: (2, bcl bs) :: [(13, dcl13 P Dn lw cl id gl bo), (14, lng pn), (15, ia ri), (16, ia lf), (17, ia wa), (18, ia fo), (19, lng dn), (20, ia ha), (21, ia pa), (22, ia bl), (115, .inr (7, [.int (Int32.ofNat o), .int (Int32.ofNat s), .ref 116, .ref 117, .ref 118, .ref 119])), (116, wrd ws), (117, ia sgl), (118, ia nbl)])) rfl rfl rfl rfl rfl ((x_beg_t (H := ov H ((1, tcl n lim a kd pl 22 le nu tk (Int32.ofNat 0) fp) :: (2, bcl bs) :: [(13, dcl13 P Dn lw cl id gl bo), (14, lng pn), (15, ia ri), (16, ia lf), (17, ia wa), (18, ia fo), (19, lng dn), (20, ia ha), (21, ia pa), (22, ia bl), (115, .inr (7, [.int (Int32.ofNat o), .int (Int32.ofNat s), .ref 116, .ref 117, .ref 118, .ref 119])), (116, wrd ws), (117, ia sgl), (118, ia nbl)])) (Or.inl rfl)).up (by omega)) rfl ?_
            refine bcF_ne rfl (by decide) ?_
            refine RT_step (pc2 := 30) rfl (fun _ _ => rfl) ?_
            refine ow_gf rfl rfl rfl hlen rfl ?_
            refine rt_bip rfl k8_20 ?_
            refine biF_ge rfl (n_nle (by omega) (by omega)) ?_
            refine RT_step (pc2 := 39) rfl (fun _ _ => rfl) ?_
            refine rt_bip rfl k8_8 ?_
            refine biT_le rfl (n_le (by omega) (by omega)) ?_
            refine RT_step (pc2 := 51) rfl (fun _ _ => rfl) ?_
            refine RT_step (pc2 := 52) rfl (fun _ _ => rfl) ?_
            refine ow_gf rfl rfl rfl hlen rfl ?_
            refine rt_ico rfl ki_1 ?_
            refine ba_iadd rfl ?_
            rw [n_add]
            refine ow_pf (l2 := ((1, tcl n lim a kd pl 22 le nu tk (Int32.ofNat 0) fp) :: (2, bcl bs) :: [(13, dcl13 P Dn lw cl id gl bo), (14, lng pn), (15, ia ri), (16, ia lf), (17, ia wa), (18, ia fo), (19, lng dn), (20, ia ha), (21, ia pa), (22, ia bl), (115, .inr (7, [.int (Int32.ofNat (o + 1)), .int (Int32.ofNat s), .ref 116, .ref 117, .ref 118, .ref 119])), (116, wrd ws), (117, ia sgl), (118, ia nbl)])) rfl rfl rfl rfl rfl hlen rfl rfl ?_
            refine RT_step (pc2 := 61) rfl (fun _ _ => rfl) ?_
            refine ow_gf rfl rfl rfl hlen rfl ?_
            refine RT_step (pc2 := 66) rfl (fun _ _ => rfl) ?_
            refine RT_step (pc2 := 67) rfl (fun _ _ => rfl) ?_
            refine ow_iv0 (l2 := ((1, tcl n lim a1 kd1 pl1 w1 le1 nu1 tk (Int32.ofNat 0) fp1) :: (2, bcl bs) :: [(13, dcl13 P Dn lw cl id gl bo), (14, lng pn), (15, ia ri), (16, ia lf), (17, ia wa), (18, ia fo), (19, lng dn), (20, ia ha), (21, ia pa), (22, ia bl), (115, .inr (7, [.int (Int32.ofNat (o + 1)), .int (Int32.ofNat s), .ref 116, .ref 117, .ref 118, .ref 119])), (116, wrd ws), (117, ia sgl), (118, ia nbl)])) rfl rfl rfl rfl hlen rfl rfl rfl ((x1 _ (ov_hl hlen) (ov_at rfl (ov_lt hlen (by decide))) (ov_at rfl (ov_lt hlen (by decide)))).up (by omega)) rfl ?_
            refine RT_step (pc2 := 72) rfl (fun _ _ => rfl) ?_
            refine bcT_eq rfl rfl ?_
            refine RT_step (pc2 := 105) rfl (fun _ _ => rfl) ?_
            refine RT_step (pc2 := 107) rfl (fun _ _ => rfl) ?_
            refine rt_ord rfl (by decide) rfl ?_
            refine rt_isw rfl (v := 16) (by decide +kernel) ?_
            refine RT_step (pc2 := 148) rfl (fun _ _ => rfl) ?_
            refine RT_step (pc2 := 149) rfl (fun _ _ => rfl) ?_
            refine RT_step (pc2 := 150) rfl (fun _ _ => rfl) ?_
            refine RT_step (pc2 := 151) rfl (fun _ _ => rfl) ?_
            refine RT_step (pc2 := 152) rfl (fun _ _ => rfl) ?_
            refine rt_ico rfl ki_1 ?_
            refine ba_iadd rfl ?_
            rw [n_add]
            refine ow_iv1 (l2 := ((1, tcl n lim a9 kd9 pl9 w9 le9 nu9 tk9 (Int32.ofNat kk9) (Int32.ofNat pl9)) :: (2, bcl bs) :: [(13, dcl13 P Dn lw cl id gl bo), (14, lng pn), (15, ia ri), (16, ia lf), (17, ia wa), (18, ia fo), (19, lng dn), (20, ia ha), (21, ia pa), (22, ia bl), (115, .inr (7, [.int (Int32.ofNat o2), .int (Int32.ofNat s2), .ref 116, .ref 117, .ref 118, .ref 119])), (116, wrd ws2), (117, ia sl2), (118, ia nb2)])) rfl rfl rfl rfl hlen rfl rfl rfl ((h.1 H hlen).up (by omega)) rfl ?_
            refine RT_step (pc2 := 159) rfl (fun _ _ => rfl) ?_
            refine RT_step (pc2 := 160) rfl (fun _ _ => rfl) ?_
            refine RT_step (pc2 := 162) rfl (fun _ _ => rfl) ?_
            refine rt_ico rfl ki_0 ?_
            refine rt_ico rfl ki_0 ?_
            refine ow_iv0 (l2 := ((1, tcl n lim a9 kd9 pl9 w9 le9 nu9 tk9 (Int32.ofNat kk9) (Int32.ofNat pl9)) :: (2, bcl bs) :: [(13, dcl13 P Dn lw cl id gl bo), (14, lng pn), (15, ia ri), (16, ia lf), (17, ia wa), (18, ia fo), (19, lng dn), (20, ia ha), (21, ia pa), (22, ia bl), (115, .inr (7, [.int (Int32.ofNat o2), .int (Int32.ofNat s3), .ref 116, .ref 117, .ref 118, .ref 119])), (116, wrd ws3), (117, ia sl3), (118, ia nb3)])) rfl rfl rfl rfl hlen rfl rfl rfl ((hadd _ _ (ov_hl hlen) (ov_at rfl (ov_lt hlen (by decide))) (ov_at rfl (ov_lt hlen (by decide))) (ov_at rfl (ov_lt hlen (by decide))) (ov_at rfl (ov_lt hlen (by decide)))).up (by omega)) rfl ?_
            refine RT_step (pc2 := 169) rfl (fun _ _ => rfl) ?_
            exact ow_irt rfl rfl rfl
          · have hy : FR (KY + 5) 259 [.ref 180] (ov H ((180, mcl (Int32.ofNat 0) (Int32.ofNat 0) n lim a1 pl1 (km kd1) nm1 sg1 (Int32.ofNat 0) qm1 wd1 td (posn vs nn (o + 1) (wi + 1) tp)) :: (181, mtl ts) :: [(182, ia nw), (187, lng nz), (202, ia nl)])) (some (.int (Int32.ofNat 0)), ov (ov H ((180, mcl (Int32.ofNat 0) (Int32.ofNat 0) n lim a1 pl1 (km kd1) nm1 sg1 (Int32.ofNat 0) qm1 wd1 td (posn vs nn (o + 1) (wi + 1) tp)) :: (181, mtl ts) :: [(182, ia nw), (187, lng nz), (202, ia nl)])) [(180, mcl (Int32.ofNat 0) (Int32.ofNat 0) n lim am9 fm9 kM9 nm9 sg9 fa9 qm9 wd9 td9 (posn vs nn2 o2 (wi + 1) tp2)), (202, ia nl2)]) := by
              refine FR_st2 (l2 := ((180, mcl (Int32.ofNat 0) (Int32.ofNat 0) n lim am9 fm9 kM9 nm9 sg9 fa9 qm9 wd9 td9 (posn vs nn2 o2 (wi + 1) tp2)) :: (181, mtl ts) :: [(182, ia nw), (187, lng nz), (202, ia nl2)])) rfl rfl rfl ?_
              refine RT_step (pc2 := 1) rfl (fun _ _ => rfl) ?_
              refine ow_iv1 (l2 := ((180, mcl (Int32.ofNat 0) (Int32.ofNat 0) n lim am9 fm9 kM9 nm9 sg9 fa9 qm9 wd9 td9 (posn vs nn2 o2 (wi + 1) tp2)) :: (181, mtl ts) :: [(182, ia nw), (187, lng nz), (202, ia nl2)])) rfl rfl rfl rfl hlen rfl rfl rfl ((h.2 H hlen).up (by omega)) rfl ?_
              refine bcT_ne rfl rfl ?_
              refine rt_ico rfl ki_0 ?_
              exact ow_irt rfl rfl rfl
            refine FR_st2 (l2 := ((180, mcl (Int32.ofNat 0) (Int32.ofNat 0) n lim am9 fm9 kM9 nm9 sg9 fa9 qm9 wd9 td9 (posn vs nn2 o2 wi tp2)) :: (181, mtl ts) :: [(182, ia nw), (187, lng nz), (202, ia nl2)])) rfl rfl rfl ?_
            refine RT_step (pc2 := 1) rfl (fun _ _ => rfl) ?_
            refine rt_bip rfl k8_40 ?_
            refine ow_iv1 (l2 := ((180, mcl (Int32.ofNat 0) (Int32.ofNat 0) n lim a pl (km kd) nm sg (Int32.ofNat 0) qm wd td (posn vs nn o wi tp)) :: (181, mtl ts) :: [(182, ia nw), (187, lng nz), (202, ia nl)])) rfl rfl rfl rfl hlen rfl rfl rfl ((m_isSign (ov_hl hlen) (ov_at rfl (ov_lt hlen (by decide))) hk (c := 40) (s := sv) (by decide) sv1 sv3).up (by omega)) rfl ?_
            refine RT_step (pc2 := 7) rfl (fun _ _ => rfl) ?_
            rw [bq, g]
            refine rt_bip rfl k8_19 ?_
            refine RT_step (pc2 := 10) rfl (fun _ _ => rfl) ?_
            refine m_wl (z := b01 false) hlen hk 11 19 _ rfl rfl rfl rfl (fun L2 l0 l1 l2 => ?_)
            rw [wj_eq t 11 19 rfl, jw] at l2
            refine rt_ild rfl l1 ?_
            refine bcT_ne rfl rfl ?_
            refine rt_ild rfl l2 ?_
            refine rt_bip rfl k8_29 ?_
            refine biT_le rfl (n_le (by omega) (by omega)) ?_
            refine rt_ald rfl l0 ?_
            refine ow_gf rfl rfl rfl hlen rfl ?_
            refine rt_bip rfl k8_20 ?_
            refine biF_eq rfl (n_ne (by omega) (by omega) (by omega)) ?_
            refine rt_ald rfl l0 ?_
            refine ow_gf rfl rfl rfl hlen rfl ?_
            refine rt_bip rfl k8_8 ?_
            refine biF_ne rfl (n_ne (by omega) (by omega) (by omega)) ?_
            refine rt_ald rfl l0 ?_
            refine RT_step (pc2 := 72) rfl (fun _ _ => rfl) ?_
            refine ow_gf rfl rfl rfl hlen rfl ?_
            refine rt_ico rfl ki_1 ?_
            refine ba_iadd rfl ?_
            rw [n_add]
            refine ow_pf (l2 := ((180, mcl (Int32.ofNat 0) (Int32.ofNat 0) n lim a pl (km kd) nm sg (Int32.ofNat 0) qm wd td (posn vs nn (o + 1) wi tp)) :: (181, mtl ts) :: [(182, ia nw), (187, lng nz), (202, ia nl)])) rfl rfl rfl rfl rfl hlen rfl rfl ?_
            refine rt_ald rfl l0 ?_
            refine RT_step (pc2 := 82) rfl (fun _ _ => rfl) ?_
            refine ow_gf rfl rfl rfl hlen rfl ?_
            refine rt_ico rfl ki_1 ?_
            refine ba_iadd rfl ?_
            rw [n_add]
            refine ow_pf (l2 := ((180, mcl (Int32.ofNat 0) (Int32.ofNat 0) n lim a pl (km kd) nm sg (Int32.ofNat 0) qm wd td (posn vs nn (o + 1) (wi + 1) tp)) :: (181, mtl ts) :: [(182, ia nw), (187, lng nz), (202, ia nl)])) rfl rfl rfl rfl rfl hlen rfl rfl ?_
            refine rt_ald rfl l0 ?_
            refine ow_iv0 (l2 := ((180, mcl (Int32.ofNat 0) (Int32.ofNat 0) n lim a1 pl1 (km kd1) nm1 sg1 (Int32.ofNat 0) qm1 wd1 td (posn vs nn (o + 1) (wi + 1) tp)) :: (181, mtl ts) :: [(182, ia nw), (187, lng nz), (202, ia nl)])) rfl rfl rfl rfl hlen rfl rfl rfl ((m1 _ (ov_hl hlen) (ov_at rfl (ov_lt hlen (by decide))) (ov_at rfl (ov_lt hlen (by decide)))).up (by omega)) rfl ?_
            refine rt_ico rfl ki_1 ?_
            refine rt_ist rfl (by decide +kernel) ?_
            refine rt_ild rfl (gs_o rfl l1 rfl) ?_
            refine bcT_eq rfl rfl ?_
            refine rt_ild rfl (gs_o rfl l2 rfl) ?_
            refine rt_bip rfl k8_19 ?_
            refine biT_ne rfl rfl ?_
            refine rt_ald rfl (gs_o rfl l0 rfl) ?_
            refine ow_iv1 (l2 := ((180, mcl (Int32.ofNat 0) (Int32.ofNat 0) n lim am9 fm9 kM9 nm9 sg9 fa9 qm9 wd9 td9 (posn vs nn2 o2 (wi + 1) tp2)) :: (181, mtl ts) :: [(182, ia nw), (187, lng nz), (202, ia nl2)])) rfl rfl rfl rfl hlen rfl rfl rfl (hy.up (by omega)) rfl ?_
            refine rt_ist rfl (by decide +kernel) ?_
            refine RT_step (pc2 := 166) rfl (fun _ _ => rfl) ?_
            refine rt_ald rfl (gs_o rfl (gs_o rfl l0 rfl) rfl) ?_
            refine RT_step (pc2 := 168) rfl (fun _ _ => rfl) ?_
            refine ow_gf rfl rfl rfl hlen rfl ?_
            refine rt_ico rfl ki_1 ?_
            refine ba_isub rfl ?_
            rw [n_sub (by omega), Nat.add_sub_cancel]
            refine ow_pf (l2 := ((180, mcl (Int32.ofNat 0) (Int32.ofNat 0) n lim am9 fm9 kM9 nm9 sg9 fa9 qm9 wd9 td9 (posn vs nn2 o2 wi tp2)) :: (181, mtl ts) :: [(182, ia nw), (187, lng nz), (202, ia nl2)])) rfl rfl rfl rfl rfl hlen rfl rfl ?_
            refine rt_ild rfl gs_n ?_
            exact ow_irt rfl rfl rfl
        · obtain ⟨a2, kd2, pl2, w2, le2, nu2, fp2, nm2, sg2, qm2, wd2, rfl, rfl, t2⟩ := c2
          obtain ⟨s3, ws3, sl3, nb3, sx3, hadd⟩ := sx_add115 sx2 (w := 22) (by decide) (Int32.ofNat 0) (Int32.ofNat 0)
          refine Or.inr ⟨k2, tk2, td2, tcl n lim a2 kd2 pl2 w2 le2 nu2 tk2 (Int32.ofNat 0) fp2, mcl (Int32.ofNat 0) (Int32.ofNat 0) n lim a2 pl2 (km kd2) nm2 sg2 (Int32.ofNat 0) qm2 wd2 td2 (posn vs (nn2 + 1) o2 wi nn2), o2, s3, (nn2 + 1), nn2, ws3, sl3, nb3, ((((nl2.set (4 * nn2) (Int32.ofNat 1)).set (4 * nn2 + 1) (Int32.ofNat tp2)).set (4 * nn2 + 2) (Int32.ofNat 0)).set (4 * nn2 + 3) (Int32.ofNat 0)), (tf_td t2), by omega, by omega, by omega, by omega, ?_, ?_, fun H hlen => ?_, fun H hlen => ?_⟩
          · exact sx3
          · simp only [List.length_set]; exact ln2
          · refine FR_st2 (l2 := ((1, tcl n lim a2 kd2 pl2 w2 le2 nu2 tk2 (Int32.ofNat 0) fp2) :: (2, bcl bs) :: [(13, dcl13 P Dn lw cl id gl bo), (14, lng pn), (15, ia ri), (16, ia lf), (17, ia wa), (18, ia fo), (19, lng dn), (20, ia ha), (21, ia pa), (22, ia bl), (115, .inr (7, [.int (Int32.ofNat o2), .int (Int32.ofNat s3), .ref 116, .ref 117, .ref 118, .ref 119])), (116, wrd ws3), (117, ia sl3), (118, ia nb3)])) rfl rfl rfl ?_
            refine RT_step (pc2 := 1) rfl (fun _ _ => rfl) ?_
            refine rt_bip rfl k8_40 ?_
            refine ow_iv1 (l2 := ((1, tcl n lim a kd pl 22 le nu tk (Int32.ofNat 0) fp) :: (2, bcl bs) :: [(13, dcl13 P Dn lw cl id gl bo), (14, lng pn), (15, ia ri), (16, ia lf), (17, ia wa), (18, ia fo), (19, lng dn), (20, ia ha), (21, ia pa), (22, ia bl), (115, .inr (7, [.int (Int32.ofNat o), .int (Int32.ofNat s), .ref 116, .ref 117, .ref 118, .ref 119])), (116, wrd ws), (117, ia sgl), (118, ia nbl)])) rfl rfl rfl rfl hlen rfl rfl rfl ((x_isMarkHere (ov_hl hlen) (ov_at rfl (ov_lt hlen (by decide))) hk5 (c := 40) (s := sv) (by decide) sv1 sv2).up (by omega)) rfl ?_
            rw [g]
            refine RT_step (pc2 := 8) rfl (fun _ _ => rfl) ?_
            refine RT_step (pc2 := 10) rfl (fun _ _ => rfl) ?_
            refine bcT_ne rfl rfl ?_
            refine RT_step (pc2 := 14) rfl (fun _ _ => rfl) ?_
            refine ow_gf rfl rfl rfl hlen rfl ?_
            refine ow_is1 (l2 := ((1, tcl n lim a kd pl 22 le nu tk (Int32.ofNat 0) fp) :: (2, bcl bs) :: [(13, dcl13 P Dn lw cl id gl bo), (14, lng pn), (15, ia ri), (16, ia lf), (17, ia wa), (18, ia fo), (19, lng dn), (20, ia ha), (21, ia pa), (22, ia bl), (115, .inr (7, [.int (Int32.ofNat o), .int (Int32.ofNat s), .ref 116, .ref 117, .ref 118, .ref 119])), (116, wrd ws), (117, ia sgl), (118, ia nbl)])) rfl rfl rfl rfl rfl ((x_beg_t (H := ov H ((1, tcl n lim a kd pl 22 le nu tk (Int32.ofNat 0) fp) :: (2, bcl bs) :: [(13, dcl13 P Dn lw cl id gl bo), (14, lng pn), (15, ia ri), (16, ia lf), (17, ia wa), (18, ia fo), (19, lng dn), (20, ia ha), (21, ia pa), (22, ia bl), (115, .inr (7, [.int (Int32.ofNat o), .int (Int32.ofNat s), .ref 116, .ref 117, .ref 118, .ref 119])), (116, wrd ws), (117, ia sgl), (118, ia nbl)])) (Or.inl rfl)).up (by omega)) rfl ?_
            refine bcF_ne rfl (by decide) ?_
            refine RT_step (pc2 := 30) rfl (fun _ _ => rfl) ?_
            refine ow_gf rfl rfl rfl hlen rfl ?_
            refine rt_bip rfl k8_20 ?_
            refine biF_ge rfl (n_nle (by omega) (by omega)) ?_
            refine RT_step (pc2 := 39) rfl (fun _ _ => rfl) ?_
            refine rt_bip rfl k8_8 ?_
            refine biT_le rfl (n_le (by omega) (by omega)) ?_
            refine RT_step (pc2 := 51) rfl (fun _ _ => rfl) ?_
            refine RT_step (pc2 := 52) rfl (fun _ _ => rfl) ?_
            refine ow_gf rfl rfl rfl hlen rfl ?_
            refine rt_ico rfl ki_1 ?_
            refine ba_iadd rfl ?_
            rw [n_add]
            refine ow_pf (l2 := ((1, tcl n lim a kd pl 22 le nu tk (Int32.ofNat 0) fp) :: (2, bcl bs) :: [(13, dcl13 P Dn lw cl id gl bo), (14, lng pn), (15, ia ri), (16, ia lf), (17, ia wa), (18, ia fo), (19, lng dn), (20, ia ha), (21, ia pa), (22, ia bl), (115, .inr (7, [.int (Int32.ofNat (o + 1)), .int (Int32.ofNat s), .ref 116, .ref 117, .ref 118, .ref 119])), (116, wrd ws), (117, ia sgl), (118, ia nbl)])) rfl rfl rfl rfl rfl hlen rfl rfl ?_
            refine RT_step (pc2 := 61) rfl (fun _ _ => rfl) ?_
            refine ow_gf rfl rfl rfl hlen rfl ?_
            refine RT_step (pc2 := 66) rfl (fun _ _ => rfl) ?_
            refine RT_step (pc2 := 67) rfl (fun _ _ => rfl) ?_
            refine ow_iv0 (l2 := ((1, tcl n lim a1 kd1 pl1 w1 le1 nu1 tk (Int32.ofNat 0) fp1) :: (2, bcl bs) :: [(13, dcl13 P Dn lw cl id gl bo), (14, lng pn), (15, ia ri), (16, ia lf), (17, ia wa), (18, ia fo), (19, lng dn), (20, ia ha), (21, ia pa), (22, ia bl), (115, .inr (7, [.int (Int32.ofNat (o + 1)), .int (Int32.ofNat s), .ref 116, .ref 117, .ref 118, .ref 119])), (116, wrd ws), (117, ia sgl), (118, ia nbl)])) rfl rfl rfl rfl hlen rfl rfl rfl ((x1 _ (ov_hl hlen) (ov_at rfl (ov_lt hlen (by decide))) (ov_at rfl (ov_lt hlen (by decide)))).up (by omega)) rfl ?_
            refine RT_step (pc2 := 72) rfl (fun _ _ => rfl) ?_
            refine bcT_eq rfl rfl ?_
            refine RT_step (pc2 := 105) rfl (fun _ _ => rfl) ?_
            refine RT_step (pc2 := 107) rfl (fun _ _ => rfl) ?_
            refine rt_ord rfl (by decide) rfl ?_
            refine rt_isw rfl (v := 16) (by decide +kernel) ?_
            refine RT_step (pc2 := 148) rfl (fun _ _ => rfl) ?_
            refine RT_step (pc2 := 149) rfl (fun _ _ => rfl) ?_
            refine RT_step (pc2 := 150) rfl (fun _ _ => rfl) ?_
            refine RT_step (pc2 := 151) rfl (fun _ _ => rfl) ?_
            refine RT_step (pc2 := 152) rfl (fun _ _ => rfl) ?_
            refine rt_ico rfl ki_1 ?_
            refine ba_iadd rfl ?_
            rw [n_add]
            refine ow_iv1 (l2 := ((1, tcl n lim a2 kd2 pl2 w2 le2 nu2 tk2 (Int32.ofNat 0) fp2) :: (2, bcl bs) :: [(13, dcl13 P Dn lw cl id gl bo), (14, lng pn), (15, ia ri), (16, ia lf), (17, ia wa), (18, ia fo), (19, lng dn), (20, ia ha), (21, ia pa), (22, ia bl), (115, .inr (7, [.int (Int32.ofNat o2), .int (Int32.ofNat s2), .ref 116, .ref 117, .ref 118, .ref 119])), (116, wrd ws2), (117, ia sl2), (118, ia nb2)])) rfl rfl rfl rfl hlen rfl rfl rfl ((h.1 H hlen).up (by omega)) rfl ?_
            refine RT_step (pc2 := 159) rfl (fun _ _ => rfl) ?_
            refine RT_step (pc2 := 160) rfl (fun _ _ => rfl) ?_
            refine RT_step (pc2 := 162) rfl (fun _ _ => rfl) ?_
            refine rt_ico rfl ki_0 ?_
            refine rt_ico rfl ki_0 ?_
            refine ow_iv0 (l2 := ((1, tcl n lim a2 kd2 pl2 w2 le2 nu2 tk2 (Int32.ofNat 0) fp2) :: (2, bcl bs) :: [(13, dcl13 P Dn lw cl id gl bo), (14, lng pn), (15, ia ri), (16, ia lf), (17, ia wa), (18, ia fo), (19, lng dn), (20, ia ha), (21, ia pa), (22, ia bl), (115, .inr (7, [.int (Int32.ofNat o2), .int (Int32.ofNat s3), .ref 116, .ref 117, .ref 118, .ref 119])), (116, wrd ws3), (117, ia sl3), (118, ia nb3)])) rfl rfl rfl rfl hlen rfl rfl rfl ((hadd _ _ (ov_hl hlen) (ov_at rfl (ov_lt hlen (by decide))) (ov_at rfl (ov_lt hlen (by decide))) (ov_at rfl (ov_lt hlen (by decide))) (ov_at rfl (ov_lt hlen (by decide)))).up (by omega)) rfl ?_
            refine RT_step (pc2 := 169) rfl (fun _ _ => rfl) ?_
            exact ow_irt rfl rfl rfl
          · have hy : FR (KY + 5) 259 [.ref 180] (ov H ((180, mcl (Int32.ofNat 0) (Int32.ofNat 0) n lim a1 pl1 (km kd1) nm1 sg1 (Int32.ofNat 0) qm1 wd1 td (posn vs nn (o + 1) (wi + 1) tp)) :: (181, mtl ts) :: [(182, ia nw), (187, lng nz), (202, ia nl)])) (some (.int (Int32.ofNat 1)), ov (ov H ((180, mcl (Int32.ofNat 0) (Int32.ofNat 0) n lim a1 pl1 (km kd1) nm1 sg1 (Int32.ofNat 0) qm1 wd1 td (posn vs nn (o + 1) (wi + 1) tp)) :: (181, mtl ts) :: [(182, ia nw), (187, lng nz), (202, ia nl)])) [(180, mcl (Int32.ofNat 0) (Int32.ofNat 0) n lim a2 pl2 (km kd2) nm2 sg2 (Int32.ofNat 0) qm2 wd2 td2 (posn vs (nn2 + 1) o2 (wi + 1) nn2)), (202, ia ((((nl2.set (4 * nn2) (Int32.ofNat 1)).set (4 * nn2 + 1) (Int32.ofNat tp2)).set (4 * nn2 + 2) (Int32.ofNat 0)).set (4 * nn2 + 3) (Int32.ofNat 0)))]) := by
              refine FR_st2 (l2 := ((180, mcl (Int32.ofNat 0) (Int32.ofNat 0) n lim a2 pl2 (km kd2) nm2 sg2 (Int32.ofNat 0) qm2 wd2 td2 (posn vs (nn2 + 1) o2 (wi + 1) nn2)) :: (181, mtl ts) :: [(182, ia nw), (187, lng nz), (202, ia ((((nl2.set (4 * nn2) (Int32.ofNat 1)).set (4 * nn2 + 1) (Int32.ofNat tp2)).set (4 * nn2 + 2) (Int32.ofNat 0)).set (4 * nn2 + 3) (Int32.ofNat 0)))])) rfl rfl rfl ?_
              refine RT_step (pc2 := 1) rfl (fun _ _ => rfl) ?_
              refine ow_iv1 (l2 := ((180, mcl (Int32.ofNat 0) (Int32.ofNat 0) n lim a2 pl2 (km kd2) nm2 sg2 (Int32.ofNat 0) qm2 wd2 td2 (posn vs nn2 o2 (wi + 1) tp2)) :: (181, mtl ts) :: [(182, ia nw), (187, lng nz), (202, ia nl2)])) rfl rfl rfl rfl hlen rfl rfl rfl ((h.2 H hlen).up (by omega)) rfl ?_
              refine bcF_ne rfl (by decide) ?_
              refine RT_step (pc2 := 10) rfl (fun _ _ => rfl) ?_
              refine RT_step (pc2 := 11) rfl (fun _ _ => rfl) ?_
              refine rt_ico rfl ki_1 ?_
              refine RT_step (pc2 := 13) rfl (fun _ _ => rfl) ?_
              refine ow_gf rfl rfl rfl hlen rfl ?_
              refine rt_ico rfl ki_0 ?_
              refine rt_ico rfl ki_0 ?_
              refine ow_iv1 (l2 := ((180, mcl (Int32.ofNat 0) (Int32.ofNat 0) n lim a2 pl2 (km kd2) nm2 sg2 (Int32.ofNat 0) qm2 wd2 td2 (posn vs (nn2 + 1) o2 (wi + 1) tp2)) :: (181, mtl ts) :: [(182, ia nw), (187, lng nz), (202, ia ((((nl2.set (4 * nn2) (Int32.ofNat 1)).set (4 * nn2 + 1) (Int32.ofNat tp2)).set (4 * nn2 + 2) (Int32.ofNat 0)).set (4 * nn2 + 3) (Int32.ofNat 0)))])) rfl rfl rfl rfl hlen rfl rfl rfl ((m_says (ov_hl hlen) (ov_at rfl (ov_lt hlen (by decide))) (ov_at rfl (ov_lt hlen (by decide))) ln2 (by omega)).up (by omega)) rfl ?_
              refine ow_pf (l2 := ((180, mcl (Int32.ofNat 0) (Int32.ofNat 0) n lim a2 pl2 (km kd2) nm2 sg2 (Int32.ofNat 0) qm2 wd2 td2 (posn vs (nn2 + 1) o2 (wi + 1) nn2)) :: (181, mtl ts) :: [(182, ia nw), (187, lng nz), (202, ia ((((nl2.set (4 * nn2) (Int32.ofNat 1)).set (4 * nn2 + 1) (Int32.ofNat tp2)).set (4 * nn2 + 2) (Int32.ofNat 0)).set (4 * nn2 + 3) (Int32.ofNat 0)))])) rfl rfl rfl rfl rfl hlen rfl rfl ?_
              refine rt_ico rfl ki_1 ?_
              exact ow_irt rfl rfl rfl
            refine FR_st2 (l2 := ((180, mcl (Int32.ofNat 0) (Int32.ofNat 0) n lim a2 pl2 (km kd2) nm2 sg2 (Int32.ofNat 0) qm2 wd2 td2 (posn vs (nn2 + 1) o2 wi nn2)) :: (181, mtl ts) :: [(182, ia nw), (187, lng nz), (202, ia ((((nl2.set (4 * nn2) (Int32.ofNat 1)).set (4 * nn2 + 1) (Int32.ofNat tp2)).set (4 * nn2 + 2) (Int32.ofNat 0)).set (4 * nn2 + 3) (Int32.ofNat 0)))])) rfl rfl rfl ?_
            refine RT_step (pc2 := 1) rfl (fun _ _ => rfl) ?_
            refine rt_bip rfl k8_40 ?_
            refine ow_iv1 (l2 := ((180, mcl (Int32.ofNat 0) (Int32.ofNat 0) n lim a pl (km kd) nm sg (Int32.ofNat 0) qm wd td (posn vs nn o wi tp)) :: (181, mtl ts) :: [(182, ia nw), (187, lng nz), (202, ia nl)])) rfl rfl rfl rfl hlen rfl rfl rfl ((m_isSign (ov_hl hlen) (ov_at rfl (ov_lt hlen (by decide))) hk (c := 40) (s := sv) (by decide) sv1 sv3).up (by omega)) rfl ?_
            refine RT_step (pc2 := 7) rfl (fun _ _ => rfl) ?_
            rw [bq, g]
            refine rt_bip rfl k8_19 ?_
            refine RT_step (pc2 := 10) rfl (fun _ _ => rfl) ?_
            refine m_wl (z := b01 false) hlen hk 11 19 _ rfl rfl rfl rfl (fun L2 l0 l1 l2 => ?_)
            rw [wj_eq t 11 19 rfl, jw] at l2
            refine rt_ild rfl l1 ?_
            refine bcT_ne rfl rfl ?_
            refine rt_ild rfl l2 ?_
            refine rt_bip rfl k8_29 ?_
            refine biT_le rfl (n_le (by omega) (by omega)) ?_
            refine rt_ald rfl l0 ?_
            refine ow_gf rfl rfl rfl hlen rfl ?_
            refine rt_bip rfl k8_20 ?_
            refine biF_eq rfl (n_ne (by omega) (by omega) (by omega)) ?_
            refine rt_ald rfl l0 ?_
            refine ow_gf rfl rfl rfl hlen rfl ?_
            refine rt_bip rfl k8_8 ?_
            refine biF_ne rfl (n_ne (by omega) (by omega) (by omega)) ?_
            refine rt_ald rfl l0 ?_
            refine RT_step (pc2 := 72) rfl (fun _ _ => rfl) ?_
            refine ow_gf rfl rfl rfl hlen rfl ?_
            refine rt_ico rfl ki_1 ?_
            refine ba_iadd rfl ?_
            rw [n_add]
            refine ow_pf (l2 := ((180, mcl (Int32.ofNat 0) (Int32.ofNat 0) n lim a pl (km kd) nm sg (Int32.ofNat 0) qm wd td (posn vs nn (o + 1) wi tp)) :: (181, mtl ts) :: [(182, ia nw), (187, lng nz), (202, ia nl)])) rfl rfl rfl rfl rfl hlen rfl rfl ?_
            refine rt_ald rfl l0 ?_
            refine RT_step (pc2 := 82) rfl (fun _ _ => rfl) ?_
            refine ow_gf rfl rfl rfl hlen rfl ?_
            refine rt_ico rfl ki_1 ?_
            refine ba_iadd rfl ?_
            rw [n_add]
            refine ow_pf (l2 := ((180, mcl (Int32.ofNat 0) (Int32.ofNat 0) n lim a pl (km kd) nm sg (Int32.ofNat 0) qm wd td (posn vs nn (o + 1) (wi + 1) tp)) :: (181, mtl ts) :: [(182, ia nw), (187, lng nz), (202, ia nl)])) rfl rfl rfl rfl rfl hlen rfl rfl ?_
            refine rt_ald rfl l0 ?_
            refine ow_iv0 (l2 := ((180, mcl (Int32.ofNat 0) (Int32.ofNat 0) n lim a1 pl1 (km kd1) nm1 sg1 (Int32.ofNat 0) qm1 wd1 td (posn vs nn (o + 1) (wi + 1) tp)) :: (181, mtl ts) :: [(182, ia nw), (187, lng nz), (202, ia nl)])) rfl rfl rfl rfl hlen rfl rfl rfl ((m1 _ (ov_hl hlen) (ov_at rfl (ov_lt hlen (by decide))) (ov_at rfl (ov_lt hlen (by decide)))).up (by omega)) rfl ?_
            refine rt_ico rfl ki_1 ?_
            refine rt_ist rfl (by decide +kernel) ?_
            refine rt_ild rfl (gs_o rfl l1 rfl) ?_
            refine bcT_eq rfl rfl ?_
            refine rt_ild rfl (gs_o rfl l2 rfl) ?_
            refine rt_bip rfl k8_19 ?_
            refine biT_ne rfl rfl ?_
            refine rt_ald rfl (gs_o rfl l0 rfl) ?_
            refine ow_iv1 (l2 := ((180, mcl (Int32.ofNat 0) (Int32.ofNat 0) n lim a2 pl2 (km kd2) nm2 sg2 (Int32.ofNat 0) qm2 wd2 td2 (posn vs (nn2 + 1) o2 (wi + 1) nn2)) :: (181, mtl ts) :: [(182, ia nw), (187, lng nz), (202, ia ((((nl2.set (4 * nn2) (Int32.ofNat 1)).set (4 * nn2 + 1) (Int32.ofNat tp2)).set (4 * nn2 + 2) (Int32.ofNat 0)).set (4 * nn2 + 3) (Int32.ofNat 0)))])) rfl rfl rfl rfl hlen rfl rfl rfl (hy.up (by omega)) rfl ?_
            refine rt_ist rfl (by decide +kernel) ?_
            refine RT_step (pc2 := 166) rfl (fun _ _ => rfl) ?_
            refine rt_ald rfl (gs_o rfl (gs_o rfl l0 rfl) rfl) ?_
            refine RT_step (pc2 := 168) rfl (fun _ _ => rfl) ?_
            refine ow_gf rfl rfl rfl hlen rfl ?_
            refine rt_ico rfl ki_1 ?_
            refine ba_isub rfl ?_
            rw [n_sub (by omega), Nat.add_sub_cancel]
            refine ow_pf (l2 := ((180, mcl (Int32.ofNat 0) (Int32.ofNat 0) n lim a2 pl2 (km kd2) nm2 sg2 (Int32.ofNat 0) qm2 wd2 td2 (posn vs (nn2 + 1) o2 wi nn2)) :: (181, mtl ts) :: [(182, ia nw), (187, lng nz), (202, ia ((((nl2.set (4 * nn2) (Int32.ofNat 1)).set (4 * nn2 + 1) (Int32.ofNat tp2)).set (4 * nn2 + 2) (Int32.ofNat 0)).set (4 * nn2 + 3) (Int32.ofNat 0)))])) rfl rfl rfl rfl rfl hlen rfl rfl ?_
            refine rt_ild rfl gs_n ?_
            exact ow_irt rfl rfl rfl
    · subst cw
      have hk1 := w_k1 t (by omega)
      by_cases cf : o = 20 ∨ wi = 8
      · obtain ⟨T, M, f, hx, hm⟩ := s_ref (bs := bs) (ts := ts) (lim := lim) (po := (posn vs nn o wi tp)) (pl := pl) (tk := tk) (td := td) (fp := fp) (plM := qm) t (kk := 4) (by decide) (by decide) (Or.inl (by omega))
        refine Or.inl ⟨T, M, o, s, nn, tp, ws, sgl, nbl, nl, f, sx, ?_⟩
        by_cases co : o = 20
        · refine ⟨fun H hlen => ?_, fun H hlen => ?_⟩
          · refine FR_st2 (l2 := ((1, T) :: (2, bcl bs) :: [(13, dcl13 P Dn lw cl id gl bo), (14, lng pn), (15, ia ri), (16, ia lf), (17, ia wa), (18, ia fo), (19, lng dn), (20, ia ha), (21, ia pa), (22, ia bl), (115, .inr (7, [.int (Int32.ofNat o), .int (Int32.ofNat s), .ref 116, .ref 117, .ref 118, .ref 119])), (116, wrd ws), (117, ia sgl), (118, ia nbl)])) rfl rfl rfl ?_
            refine RT_step (pc2 := 1) rfl (fun _ _ => rfl) ?_
            refine rt_bip rfl k8_40 ?_
            refine ow_iv1 (l2 := ((1, tcl n lim a kd pl 27 le nu tk (Int32.ofNat 0) fp) :: (2, bcl bs) :: [(13, dcl13 P Dn lw cl id gl bo), (14, lng pn), (15, ia ri), (16, ia lf), (17, ia wa), (18, ia fo), (19, lng dn), (20, ia ha), (21, ia pa), (22, ia bl), (115, .inr (7, [.int (Int32.ofNat o), .int (Int32.ofNat s), .ref 116, .ref 117, .ref 118, .ref 119])), (116, wrd ws), (117, ia sgl), (118, ia nbl)])) rfl rfl rfl rfl hlen rfl rfl rfl ((x_isMarkHere (ov_hl hlen) (ov_at rfl (ov_lt hlen (by decide))) hk5 (c := 40) (s := sv) (by decide) sv1 sv2).up (by omega)) rfl ?_
            rw [g]
            refine RT_step (pc2 := 8) rfl (fun _ _ => rfl) ?_
            refine RT_step (pc2 := 10) rfl (fun _ _ => rfl) ?_
            refine bcT_ne rfl rfl ?_
            refine RT_step (pc2 := 14) rfl (fun _ _ => rfl) ?_
            refine ow_gf rfl rfl rfl hlen rfl ?_
            refine ow_is1 (l2 := ((1, tcl n lim a kd pl 27 le nu tk (Int32.ofNat 0) fp) :: (2, bcl bs) :: [(13, dcl13 P Dn lw cl id gl bo), (14, lng pn), (15, ia ri), (16, ia lf), (17, ia wa), (18, ia fo), (19, lng dn), (20, ia ha), (21, ia pa), (22, ia bl), (115, .inr (7, [.int (Int32.ofNat o), .int (Int32.ofNat s), .ref 116, .ref 117, .ref 118, .ref 119])), (116, wrd ws), (117, ia sgl), (118, ia nbl)])) rfl rfl rfl rfl rfl ((x_beg_t (H := ov H ((1, tcl n lim a kd pl 27 le nu tk (Int32.ofNat 0) fp) :: (2, bcl bs) :: [(13, dcl13 P Dn lw cl id gl bo), (14, lng pn), (15, ia ri), (16, ia lf), (17, ia wa), (18, ia fo), (19, lng dn), (20, ia ha), (21, ia pa), (22, ia bl), (115, .inr (7, [.int (Int32.ofNat o), .int (Int32.ofNat s), .ref 116, .ref 117, .ref 118, .ref 119])), (116, wrd ws), (117, ia sgl), (118, ia nbl)])) (by decide)).up (by omega)) rfl ?_
            refine bcF_ne rfl (by decide) ?_
            refine RT_step (pc2 := 30) rfl (fun _ _ => rfl) ?_
            refine ow_gf rfl rfl rfl hlen rfl ?_
            refine rt_bip rfl k8_20 ?_
            refine biT_ge rfl (n_le (by omega) (by omega)) ?_
            refine RT_step (pc2 := 45) rfl (fun _ _ => rfl) ?_
            refine rt_ico rfl ki_4 ?_
            refine ow_iv1 (l2 := ((1, T) :: (2, bcl bs) :: [(13, dcl13 P Dn lw cl id gl bo), (14, lng pn), (15, ia ri), (16, ia lf), (17, ia wa), (18, ia fo), (19, lng dn), (20, ia ha), (21, ia pa), (22, ia bl), (115, .inr (7, [.int (Int32.ofNat o), .int (Int32.ofNat s), .ref 116, .ref 117, .ref 118, .ref 119])), (116, wrd ws), (117, ia sgl), (118, ia nbl)])) rfl rfl rfl rfl hlen rfl rfl rfl ((hx _ (ov_hl hlen) (ov_at rfl (ov_lt hlen (by decide))) (ov_at rfl (ov_lt hlen (by decide)))).up (by omega)) rfl ?_
            exact ow_irt rfl rfl rfl
          · refine FR_st2 (l2 := ((180, M) :: (181, mtl ts) :: [(182, ia nw), (187, lng nz), (202, ia nl)])) rfl rfl rfl ?_
            refine RT_step (pc2 := 1) rfl (fun _ _ => rfl) ?_
            refine rt_bip rfl k8_40 ?_
            refine ow_iv1 (l2 := ((180, mcl (Int32.ofNat 0) (Int32.ofNat 0) n lim a pl (km kd) nm sg (Int32.ofNat 0) qm wd td (posn vs nn o wi tp)) :: (181, mtl ts) :: [(182, ia nw), (187, lng nz), (202, ia nl)])) rfl rfl rfl rfl hlen rfl rfl rfl ((m_isSign (ov_hl hlen) (ov_at rfl (ov_lt hlen (by decide))) hk (c := 40) (s := sv) (by decide) sv1 sv3).up (by omega)) rfl ?_
            refine RT_step (pc2 := 7) rfl (fun _ _ => rfl) ?_
            rw [bq, g]
            refine rt_bip rfl k8_19 ?_
            refine RT_step (pc2 := 10) rfl (fun _ _ => rfl) ?_
            refine m_wl (z := b01 false) hlen hk 11 19 _ rfl rfl rfl rfl (fun L2 l0 l1 l2 => ?_)
            rw [wj_eq t 11 19 rfl, jw] at l2
            refine rt_ild rfl l1 ?_
            refine bcT_ne rfl rfl ?_
            refine rt_ild rfl l2 ?_
            refine rt_bip rfl k8_29 ?_
            refine biT_le rfl (n_le (by omega) (by omega)) ?_
            refine rt_ald rfl l0 ?_
            refine ow_gf rfl rfl rfl hlen rfl ?_
            refine rt_bip rfl k8_20 ?_
            refine biT_eq rfl (n_eq co) ?_
            refine rt_ald rfl l0 ?_
            refine rt_ico rfl ki_4 ?_
            refine ow_iv1 (l2 := ((180, M) :: (181, mtl ts) :: [(182, ia nw), (187, lng nz), (202, ia nl)])) rfl rfl rfl rfl hlen rfl rfl rfl ((hm _ (ov_hl hlen) (ov_at rfl (ov_lt hlen (by decide))) (ov_at rfl (ov_lt hlen (by decide)))).up (by omega)) rfl ?_
            exact ow_irt rfl rfl rfl
        · refine ⟨fun H hlen => ?_, fun H hlen => ?_⟩
          · refine FR_st2 (l2 := ((1, T) :: (2, bcl bs) :: [(13, dcl13 P Dn lw cl id gl bo), (14, lng pn), (15, ia ri), (16, ia lf), (17, ia wa), (18, ia fo), (19, lng dn), (20, ia ha), (21, ia pa), (22, ia bl), (115, .inr (7, [.int (Int32.ofNat o), .int (Int32.ofNat s), .ref 116, .ref 117, .ref 118, .ref 119])), (116, wrd ws), (117, ia sgl), (118, ia nbl)])) rfl rfl rfl ?_
            refine RT_step (pc2 := 1) rfl (fun _ _ => rfl) ?_
            refine rt_bip rfl k8_40 ?_
            refine ow_iv1 (l2 := ((1, tcl n lim a kd pl 27 le nu tk (Int32.ofNat 0) fp) :: (2, bcl bs) :: [(13, dcl13 P Dn lw cl id gl bo), (14, lng pn), (15, ia ri), (16, ia lf), (17, ia wa), (18, ia fo), (19, lng dn), (20, ia ha), (21, ia pa), (22, ia bl), (115, .inr (7, [.int (Int32.ofNat o), .int (Int32.ofNat s), .ref 116, .ref 117, .ref 118, .ref 119])), (116, wrd ws), (117, ia sgl), (118, ia nbl)])) rfl rfl rfl rfl hlen rfl rfl rfl ((x_isMarkHere (ov_hl hlen) (ov_at rfl (ov_lt hlen (by decide))) hk5 (c := 40) (s := sv) (by decide) sv1 sv2).up (by omega)) rfl ?_
            rw [g]
            refine RT_step (pc2 := 8) rfl (fun _ _ => rfl) ?_
            refine RT_step (pc2 := 10) rfl (fun _ _ => rfl) ?_
            refine bcT_ne rfl rfl ?_
            refine RT_step (pc2 := 14) rfl (fun _ _ => rfl) ?_
            refine ow_gf rfl rfl rfl hlen rfl ?_
            refine ow_is1 (l2 := ((1, tcl n lim a kd pl 27 le nu tk (Int32.ofNat 0) fp) :: (2, bcl bs) :: [(13, dcl13 P Dn lw cl id gl bo), (14, lng pn), (15, ia ri), (16, ia lf), (17, ia wa), (18, ia fo), (19, lng dn), (20, ia ha), (21, ia pa), (22, ia bl), (115, .inr (7, [.int (Int32.ofNat o), .int (Int32.ofNat s), .ref 116, .ref 117, .ref 118, .ref 119])), (116, wrd ws), (117, ia sgl), (118, ia nbl)])) rfl rfl rfl rfl rfl ((x_beg_t (H := ov H ((1, tcl n lim a kd pl 27 le nu tk (Int32.ofNat 0) fp) :: (2, bcl bs) :: [(13, dcl13 P Dn lw cl id gl bo), (14, lng pn), (15, ia ri), (16, ia lf), (17, ia wa), (18, ia fo), (19, lng dn), (20, ia ha), (21, ia pa), (22, ia bl), (115, .inr (7, [.int (Int32.ofNat o), .int (Int32.ofNat s), .ref 116, .ref 117, .ref 118, .ref 119])), (116, wrd ws), (117, ia sgl), (118, ia nbl)])) (by decide)).up (by omega)) rfl ?_
            refine bcF_ne rfl (by decide) ?_
            refine RT_step (pc2 := 30) rfl (fun _ _ => rfl) ?_
            refine ow_gf rfl rfl rfl hlen rfl ?_
            refine rt_bip rfl k8_20 ?_
            refine biF_ge rfl (n_nle (by omega) (by omega)) ?_
            refine RT_step (pc2 := 39) rfl (fun _ _ => rfl) ?_
            refine rt_bip rfl k8_8 ?_
            refine biF_le rfl (n_nle (by omega) (by omega)) ?_
            refine RT_step (pc2 := 45) rfl (fun _ _ => rfl) ?_
            refine rt_ico rfl ki_4 ?_
            refine ow_iv1 (l2 := ((1, T) :: (2, bcl bs) :: [(13, dcl13 P Dn lw cl id gl bo), (14, lng pn), (15, ia ri), (16, ia lf), (17, ia wa), (18, ia fo), (19, lng dn), (20, ia ha), (21, ia pa), (22, ia bl), (115, .inr (7, [.int (Int32.ofNat o), .int (Int32.ofNat s), .ref 116, .ref 117, .ref 118, .ref 119])), (116, wrd ws), (117, ia sgl), (118, ia nbl)])) rfl rfl rfl rfl hlen rfl rfl rfl ((hx _ (ov_hl hlen) (ov_at rfl (ov_lt hlen (by decide))) (ov_at rfl (ov_lt hlen (by decide)))).up (by omega)) rfl ?_
            exact ow_irt rfl rfl rfl
          · refine FR_st2 (l2 := ((180, M) :: (181, mtl ts) :: [(182, ia nw), (187, lng nz), (202, ia nl)])) rfl rfl rfl ?_
            refine RT_step (pc2 := 1) rfl (fun _ _ => rfl) ?_
            refine rt_bip rfl k8_40 ?_
            refine ow_iv1 (l2 := ((180, mcl (Int32.ofNat 0) (Int32.ofNat 0) n lim a pl (km kd) nm sg (Int32.ofNat 0) qm wd td (posn vs nn o wi tp)) :: (181, mtl ts) :: [(182, ia nw), (187, lng nz), (202, ia nl)])) rfl rfl rfl rfl hlen rfl rfl rfl ((m_isSign (ov_hl hlen) (ov_at rfl (ov_lt hlen (by decide))) hk (c := 40) (s := sv) (by decide) sv1 sv3).up (by omega)) rfl ?_
            refine RT_step (pc2 := 7) rfl (fun _ _ => rfl) ?_
            rw [bq, g]
            refine rt_bip rfl k8_19 ?_
            refine RT_step (pc2 := 10) rfl (fun _ _ => rfl) ?_
            refine m_wl (z := b01 false) hlen hk 11 19 _ rfl rfl rfl rfl (fun L2 l0 l1 l2 => ?_)
            rw [wj_eq t 11 19 rfl, jw] at l2
            refine rt_ild rfl l1 ?_
            refine bcT_ne rfl rfl ?_
            refine rt_ild rfl l2 ?_
            refine rt_bip rfl k8_29 ?_
            refine biT_le rfl (n_le (by omega) (by omega)) ?_
            refine rt_ald rfl l0 ?_
            refine ow_gf rfl rfl rfl hlen rfl ?_
            refine rt_bip rfl k8_20 ?_
            refine biF_eq rfl (n_ne co (by omega) (by omega)) ?_
            refine rt_ald rfl l0 ?_
            refine ow_gf rfl rfl rfl hlen rfl ?_
            refine rt_bip rfl k8_8 ?_
            refine biT_ne rfl (n_eq (by omega)) ?_
            refine rt_ald rfl l0 ?_
            refine rt_ico rfl ki_4 ?_
            refine ow_iv1 (l2 := ((180, M) :: (181, mtl ts) :: [(182, ia nw), (187, lng nz), (202, ia nl)])) rfl rfl rfl rfl hlen rfl rfl rfl ((hm _ (ov_hl hlen) (ov_at rfl (ov_lt hlen (by decide))) (ov_at rfl (ov_lt hlen (by decide)))).up (by omega)) rfl ?_
            exact ow_irt rfl rfl rfl
      · obtain ⟨T1, M1, c1, x1, m1⟩ := s_adv hB hM hb hn hl (po := (posn vs nn (o + 1) (wi + 1) tp)) (pl := pl) (tk := tk) (td := td) (fp := fp) (plM := qm) t (by omega) (by omega)
        obtain ⟨a1, kd1, pl1, w1, le1, nu1, fp1, nm1, sg1, qm1, wd1, rfl, rfl, t1⟩ := c1
        rcases st13_115 hB hM hb hn hl (pl := pl1) (tk := tk) (td := td) (fp := fp1) (qm := qm1) (o := o + 1) (nn := nn) (wi := wi + 1) (tp := tp) t1 hP lp lz hv hN sx ln (by omega) (by omega) (by omega) with ⟨T, M, f, h⟩ | ⟨tk2, td2, T, M, s2, ws2, sl2, nb2, nl2, c2, sx2, ln2, h⟩
        · have f0 := f
          obtain ⟨a9, kd9, pl9, w9, le9, nu9, tk9, kk9, am9, fm9, kM9, nm9, sg9, fa9, qm9, wd9, td9, rfl, rfl, f9⟩ := f
          refine Or.inl ⟨tcl n lim a9 kd9 pl9 w9 le9 nu9 tk9 (Int32.ofNat kk9) (Int32.ofNat pl9), mcl (Int32.ofNat 0) (Int32.ofNat 0) n lim am9 fm9 kM9 nm9 sg9 fa9 qm9 wd9 td9 (posn vs nn (o + 1) wi tp), (o + 1), s, nn, tp, ws, sgl, nbl, nl, ⟨a9, kd9, pl9, w9, le9, nu9, tk9, kk9, am9, fm9, kM9, nm9, sg9, fa9, qm9, wd9, td9, rfl, rfl, f9⟩, sx, fun H hlen => ?_, fun H hlen => ?_⟩
          · refine FR_st2 (l2 := ((1, tcl n lim a9 kd9 pl9 w9 le9 nu9 tk9 (Int32.ofNat kk9) (Int32.ofNat pl9)) :: (2, bcl bs) :: [(13, dcl13 P Dn lw cl id gl bo), (14, lng pn), (15, ia ri), (16, ia lf), (17, ia wa), (18, ia fo), (19, lng dn), (20, ia ha), (21, ia pa), (22, ia bl), (115, .inr (7, [.int (Int32.ofNat (o + 1)), .int (Int32.ofNat s), .ref 116, .ref 117, .ref 118, .ref 119])), (116, wrd ws), (117, ia sgl), (118, ia nbl)])) rfl rfl rfl ?_
            refine RT_step (pc2 := 1) rfl (fun _ _ => rfl) ?_
            refine rt_bip rfl k8_40 ?_
            refine ow_iv1 (l2 := ((1, tcl n lim a kd pl 27 le nu tk (Int32.ofNat 0) fp) :: (2, bcl bs) :: [(13, dcl13 P Dn lw cl id gl bo), (14, lng pn), (15, ia ri), (16, ia lf), (17, ia wa), (18, ia fo), (19, lng dn), (20, ia ha), (21, ia pa), (22, ia bl), (115, .inr (7, [.int (Int32.ofNat o), .int (Int32.ofNat s), .ref 116, .ref 117, .ref 118, .ref 119])), (116, wrd ws), (117, ia sgl), (118, ia nbl)])) rfl rfl rfl rfl hlen rfl rfl rfl ((x_isMarkHere (ov_hl hlen) (ov_at rfl (ov_lt hlen (by decide))) hk5 (c := 40) (s := sv) (by decide) sv1 sv2).up (by omega)) rfl ?_
            rw [g]
            refine RT_step (pc2 := 8) rfl (fun _ _ => rfl) ?_
            refine RT_step (pc2 := 10) rfl (fun _ _ => rfl) ?_
            refine bcT_ne rfl rfl ?_
            refine RT_step (pc2 := 14) rfl (fun _ _ => rfl) ?_
            refine ow_gf rfl rfl rfl hlen rfl ?_
            refine ow_is1 (l2 := ((1, tcl n lim a kd pl 27 le nu tk (Int32.ofNat 0) fp) :: (2, bcl bs) :: [(13, dcl13 P Dn lw cl id gl bo), (14, lng pn), (15, ia ri), (16, ia lf), (17, ia wa), (18, ia fo), (19, lng dn), (20, ia ha), (21, ia pa), (22, ia bl), (115, .inr (7, [.int (Int32.ofNat o), .int (Int32.ofNat s), .ref 116, .ref 117, .ref 118, .ref 119])), (116, wrd ws), (117, ia sgl), (118, ia nbl)])) rfl rfl rfl rfl rfl ((x_beg_t (H := ov H ((1, tcl n lim a kd pl 27 le nu tk (Int32.ofNat 0) fp) :: (2, bcl bs) :: [(13, dcl13 P Dn lw cl id gl bo), (14, lng pn), (15, ia ri), (16, ia lf), (17, ia wa), (18, ia fo), (19, lng dn), (20, ia ha), (21, ia pa), (22, ia bl), (115, .inr (7, [.int (Int32.ofNat o), .int (Int32.ofNat s), .ref 116, .ref 117, .ref 118, .ref 119])), (116, wrd ws), (117, ia sgl), (118, ia nbl)])) (by decide)).up (by omega)) rfl ?_
            refine bcF_ne rfl (by decide) ?_
            refine RT_step (pc2 := 30) rfl (fun _ _ => rfl) ?_
            refine ow_gf rfl rfl rfl hlen rfl ?_
            refine rt_bip rfl k8_20 ?_
            refine biF_ge rfl (n_nle (by omega) (by omega)) ?_
            refine RT_step (pc2 := 39) rfl (fun _ _ => rfl) ?_
            refine rt_bip rfl k8_8 ?_
            refine biT_le rfl (n_le (by omega) (by omega)) ?_
            refine RT_step (pc2 := 51) rfl (fun _ _ => rfl) ?_
            refine RT_step (pc2 := 52) rfl (fun _ _ => rfl) ?_
            refine ow_gf rfl rfl rfl hlen rfl ?_
            refine rt_ico rfl ki_1 ?_
            refine ba_iadd rfl ?_
            rw [n_add]
            refine ow_pf (l2 := ((1, tcl n lim a kd pl 27 le nu tk (Int32.ofNat 0) fp) :: (2, bcl bs) :: [(13, dcl13 P Dn lw cl id gl bo), (14, lng pn), (15, ia ri), (16, ia lf), (17, ia wa), (18, ia fo), (19, lng dn), (20, ia ha), (21, ia pa), (22, ia bl), (115, .inr (7, [.int (Int32.ofNat (o + 1)), .int (Int32.ofNat s), .ref 116, .ref 117, .ref 118, .ref 119])), (116, wrd ws), (117, ia sgl), (118, ia nbl)])) rfl rfl rfl rfl rfl hlen rfl rfl ?_
            refine RT_step (pc2 := 61) rfl (fun _ _ => rfl) ?_
            refine ow_gf rfl rfl rfl hlen rfl ?_
            refine RT_step (pc2 := 66) rfl (fun _ _ => rfl) ?_
            refine RT_step (pc2 := 67) rfl (fun _ _ => rfl) ?_
            refine ow_iv0 (l2 := ((1, tcl n lim a1 kd1 pl1 w1 le1 nu1 tk (Int32.ofNat 0) fp1) :: (2, bcl bs) :: [(13, dcl13 P Dn lw cl id gl bo), (14, lng pn), (15, ia ri), (16, ia lf), (17, ia wa), (18, ia fo), (19, lng dn), (20, ia ha), (21, ia pa), (22, ia bl), (115, .inr (7, [.int (Int32.ofNat (o + 1)), .int (Int32.ofNat s), .ref 116, .ref 117, .ref 118, .ref 119])), (116, wrd ws), (117, ia sgl), (118, ia nbl)])) rfl rfl rfl rfl hlen rfl rfl rfl ((x1 _ (ov_hl hlen) (ov_at rfl (ov_lt hlen (by decide))) (ov_at rfl (ov_lt hlen (by decide)))).up (by omega)) rfl ?_
            refine RT_step (pc2 := 72) rfl (fun _ _ => rfl) ?_
            refine bcT_eq rfl rfl ?_
            refine RT_step (pc2 := 105) rfl (fun _ _ => rfl) ?_
            refine RT_step (pc2 := 107) rfl (fun _ _ => rfl) ?_
            refine rt_ord rfl (by decide) rfl ?_
            refine rt_isw rfl (v := 17) (by decide +kernel) ?_
            refine RT_step (pc2 := 170) rfl (fun _ _ => rfl) ?_
            refine RT_step (pc2 := 171) rfl (fun _ _ => rfl) ?_
            refine RT_step (pc2 := 172) rfl (fun _ _ => rfl) ?_
            refine RT_step (pc2 := 173) rfl (fun _ _ => rfl) ?_
            refine ow_iv1 (l2 := ((1, tcl n lim a9 kd9 pl9 w9 le9 nu9 tk9 (Int32.ofNat kk9) (Int32.ofNat pl9)) :: (2, bcl bs) :: [(13, dcl13 P Dn lw cl id gl bo), (14, lng pn), (15, ia ri), (16, ia lf), (17, ia wa), (18, ia fo), (19, lng dn), (20, ia ha), (21, ia pa), (22, ia bl), (115, .inr (7, [.int (Int32.ofNat (o + 1)), .int (Int32.ofNat s), .ref 116, .ref 117, .ref 118, .ref 119])), (116, wrd ws), (117, ia sgl), (118, ia nbl)])) rfl rfl rfl rfl hlen rfl rfl rfl ((h.1 H hlen).up (by omega)) rfl ?_
            exact ow_irt rfl rfl rfl
          · refine FR_st2 (l2 := ((180, mcl (Int32.ofNat 0) (Int32.ofNat 0) n lim am9 fm9 kM9 nm9 sg9 fa9 qm9 wd9 td9 (posn vs nn (o + 1) wi tp)) :: (181, mtl ts) :: [(182, ia nw), (187, lng nz), (202, ia nl)])) rfl rfl rfl ?_
            refine RT_step (pc2 := 1) rfl (fun _ _ => rfl) ?_
            refine rt_bip rfl k8_40 ?_
            refine ow_iv1 (l2 := ((180, mcl (Int32.ofNat 0) (Int32.ofNat 0) n lim a pl (km kd) nm sg (Int32.ofNat 0) qm wd td (posn vs nn o wi tp)) :: (181, mtl ts) :: [(182, ia nw), (187, lng nz), (202, ia nl)])) rfl rfl rfl rfl hlen rfl rfl rfl ((m_isSign (ov_hl hlen) (ov_at rfl (ov_lt hlen (by decide))) hk (c := 40) (s := sv) (by decide) sv1 sv3).up (by omega)) rfl ?_
            refine RT_step (pc2 := 7) rfl (fun _ _ => rfl) ?_
            rw [bq, g]
            refine rt_bip rfl k8_19 ?_
            refine RT_step (pc2 := 10) rfl (fun _ _ => rfl) ?_
            refine m_wl (z := b01 false) hlen hk 11 19 _ rfl rfl rfl rfl (fun L2 l0 l1 l2 => ?_)
            rw [wj_eq t 11 19 rfl, jw] at l2
            refine rt_ild rfl l1 ?_
            refine bcT_ne rfl rfl ?_
            refine rt_ild rfl l2 ?_
            refine rt_bip rfl k8_29 ?_
            refine biT_le rfl (n_le (by omega) (by omega)) ?_
            refine rt_ald rfl l0 ?_
            refine ow_gf rfl rfl rfl hlen rfl ?_
            refine rt_bip rfl k8_20 ?_
            refine biF_eq rfl (n_ne (by omega) (by omega) (by omega)) ?_
            refine rt_ald rfl l0 ?_
            refine ow_gf rfl rfl rfl hlen rfl ?_
            refine rt_bip rfl k8_8 ?_
            refine biF_ne rfl (n_ne (by omega) (by omega) (by omega)) ?_
            refine rt_ald rfl l0 ?_
            refine RT_step (pc2 := 72) rfl (fun _ _ => rfl) ?_
            refine ow_gf rfl rfl rfl hlen rfl ?_
            refine rt_ico rfl ki_1 ?_
            refine ba_iadd rfl ?_
            rw [n_add]
            refine ow_pf (l2 := ((180, mcl (Int32.ofNat 0) (Int32.ofNat 0) n lim a pl (km kd) nm sg (Int32.ofNat 0) qm wd td (posn vs nn (o + 1) wi tp)) :: (181, mtl ts) :: [(182, ia nw), (187, lng nz), (202, ia nl)])) rfl rfl rfl rfl rfl hlen rfl rfl ?_
            refine rt_ald rfl l0 ?_
            refine RT_step (pc2 := 82) rfl (fun _ _ => rfl) ?_
            refine ow_gf rfl rfl rfl hlen rfl ?_
            refine rt_ico rfl ki_1 ?_
            refine ba_iadd rfl ?_
            rw [n_add]
            refine ow_pf (l2 := ((180, mcl (Int32.ofNat 0) (Int32.ofNat 0) n lim a pl (km kd) nm sg (Int32.ofNat 0) qm wd td (posn vs nn (o + 1) (wi + 1) tp)) :: (181, mtl ts) :: [(182, ia nw), (187, lng nz), (202, ia nl)])) rfl rfl rfl rfl rfl hlen rfl rfl ?_
            refine rt_ald rfl l0 ?_
            refine ow_iv0 (l2 := ((180, mcl (Int32.ofNat 0) (Int32.ofNat 0) n lim a1 pl1 (km kd1) nm1 sg1 (Int32.ofNat 0) qm1 wd1 td (posn vs nn (o + 1) (wi + 1) tp)) :: (181, mtl ts) :: [(182, ia nw), (187, lng nz), (202, ia nl)])) rfl rfl rfl rfl hlen rfl rfl rfl ((m1 _ (ov_hl hlen) (ov_at rfl (ov_lt hlen (by decide))) (ov_at rfl (ov_lt hlen (by decide)))).up (by omega)) rfl ?_
            refine rt_ico rfl ki_1 ?_
            refine rt_ist rfl (by decide +kernel) ?_
            refine rt_ild rfl (gs_o rfl l1 rfl) ?_
            refine bcT_eq rfl rfl ?_
            refine rt_ild rfl (gs_o rfl l2 rfl) ?_
            refine rt_bip rfl k8_19 ?_
            refine biF_ne rfl (by decide) ?_
            refine rt_ild rfl (gs_o rfl l2 rfl) ?_
            refine rt_bip rfl k8_25 ?_
            refine biT_ge rfl (n_le (by omega) (by omega)) ?_
            refine rt_ild rfl (gs_o rfl l2 rfl) ?_
            refine rt_bip rfl k8_26 ?_
            refine biF_ge rfl (n_nle (by omega) (by omega)) ?_
            refine rt_ald rfl (gs_o rfl l0 rfl) ?_
            refine rt_ild rfl (gs_o rfl l2 rfl) ?_
            refine ow_iv1 (l2 := ((180, mcl (Int32.ofNat 0) (Int32.ofNat 0) n lim am9 fm9 kM9 nm9 sg9 fa9 qm9 wd9 td9 (posn vs nn (o + 1) (wi + 1) tp)) :: (181, mtl ts) :: [(182, ia nw), (187, lng nz), (202, ia nl)])) rfl rfl rfl rfl hlen rfl rfl rfl ((h.2 H hlen).up (by omega)) rfl ?_
            refine RT_step (pc2 := 165) rfl (fun _ _ => rfl) ?_
            refine rt_ist rfl (by decide +kernel) ?_
            refine rt_ald rfl (gs_o rfl (gs_o rfl l0 rfl) rfl) ?_
            refine RT_step (pc2 := 168) rfl (fun _ _ => rfl) ?_
            refine ow_gf rfl rfl rfl hlen rfl ?_
            refine rt_ico rfl ki_1 ?_
            refine ba_isub rfl ?_
            rw [n_sub (by omega), Nat.add_sub_cancel]
            refine ow_pf (l2 := ((180, mcl (Int32.ofNat 0) (Int32.ofNat 0) n lim am9 fm9 kM9 nm9 sg9 fa9 qm9 wd9 td9 (posn vs nn (o + 1) wi tp)) :: (181, mtl ts) :: [(182, ia nw), (187, lng nz), (202, ia nl)])) rfl rfl rfl rfl rfl hlen rfl rfl ?_
            refine rt_ild rfl gs_n ?_
            exact ow_irt rfl rfl rfl
        · obtain ⟨a2, kd2, pl2, w2, le2, nu2, fp2, nm2, sg2, qm2, wd2, rfl, rfl, t2⟩ := c2
          refine Or.inr ⟨(k + 1 + 1), tk2, td2, tcl n lim a2 kd2 pl2 w2 le2 nu2 tk2 (Int32.ofNat 0) fp2, mcl (Int32.ofNat 0) (Int32.ofNat 0) n lim a2 pl2 (km kd2) nm2 sg2 (Int32.ofNat 0) qm2 wd2 td2 (posn vs (nn + 1) (o + 1) wi nn), (o + 1), s2, (nn + 1), nn, ws2, sl2, nb2, nl2, (tf_td t2), by omega, by omega, by omega, by omega, ?_, ?_, fun H hlen => ?_, fun H hlen => ?_⟩
          · exact sx2
          · exact ln2
          · refine FR_st2 (l2 := ((1, tcl n lim a2 kd2 pl2 w2 le2 nu2 tk2 (Int32.ofNat 0) fp2) :: (2, bcl bs) :: [(13, dcl13 P Dn lw cl id gl bo), (14, lng pn), (15, ia ri), (16, ia lf), (17, ia wa), (18, ia fo), (19, lng dn), (20, ia ha), (21, ia pa), (22, ia bl), (115, .inr (7, [.int (Int32.ofNat (o + 1)), .int (Int32.ofNat s2), .ref 116, .ref 117, .ref 118, .ref 119])), (116, wrd ws2), (117, ia sl2), (118, ia nb2)])) rfl rfl rfl ?_
            refine RT_step (pc2 := 1) rfl (fun _ _ => rfl) ?_
            refine rt_bip rfl k8_40 ?_
            refine ow_iv1 (l2 := ((1, tcl n lim a kd pl 27 le nu tk (Int32.ofNat 0) fp) :: (2, bcl bs) :: [(13, dcl13 P Dn lw cl id gl bo), (14, lng pn), (15, ia ri), (16, ia lf), (17, ia wa), (18, ia fo), (19, lng dn), (20, ia ha), (21, ia pa), (22, ia bl), (115, .inr (7, [.int (Int32.ofNat o), .int (Int32.ofNat s), .ref 116, .ref 117, .ref 118, .ref 119])), (116, wrd ws), (117, ia sgl), (118, ia nbl)])) rfl rfl rfl rfl hlen rfl rfl rfl ((x_isMarkHere (ov_hl hlen) (ov_at rfl (ov_lt hlen (by decide))) hk5 (c := 40) (s := sv) (by decide) sv1 sv2).up (by omega)) rfl ?_
            rw [g]
            refine RT_step (pc2 := 8) rfl (fun _ _ => rfl) ?_
            refine RT_step (pc2 := 10) rfl (fun _ _ => rfl) ?_
            refine bcT_ne rfl rfl ?_
            refine RT_step (pc2 := 14) rfl (fun _ _ => rfl) ?_
            refine ow_gf rfl rfl rfl hlen rfl ?_
            refine ow_is1 (l2 := ((1, tcl n lim a kd pl 27 le nu tk (Int32.ofNat 0) fp) :: (2, bcl bs) :: [(13, dcl13 P Dn lw cl id gl bo), (14, lng pn), (15, ia ri), (16, ia lf), (17, ia wa), (18, ia fo), (19, lng dn), (20, ia ha), (21, ia pa), (22, ia bl), (115, .inr (7, [.int (Int32.ofNat o), .int (Int32.ofNat s), .ref 116, .ref 117, .ref 118, .ref 119])), (116, wrd ws), (117, ia sgl), (118, ia nbl)])) rfl rfl rfl rfl rfl ((x_beg_t (H := ov H ((1, tcl n lim a kd pl 27 le nu tk (Int32.ofNat 0) fp) :: (2, bcl bs) :: [(13, dcl13 P Dn lw cl id gl bo), (14, lng pn), (15, ia ri), (16, ia lf), (17, ia wa), (18, ia fo), (19, lng dn), (20, ia ha), (21, ia pa), (22, ia bl), (115, .inr (7, [.int (Int32.ofNat o), .int (Int32.ofNat s), .ref 116, .ref 117, .ref 118, .ref 119])), (116, wrd ws), (117, ia sgl), (118, ia nbl)])) (by decide)).up (by omega)) rfl ?_
            refine bcF_ne rfl (by decide) ?_
            refine RT_step (pc2 := 30) rfl (fun _ _ => rfl) ?_
            refine ow_gf rfl rfl rfl hlen rfl ?_
            refine rt_bip rfl k8_20 ?_
            refine biF_ge rfl (n_nle (by omega) (by omega)) ?_
            refine RT_step (pc2 := 39) rfl (fun _ _ => rfl) ?_
            refine rt_bip rfl k8_8 ?_
            refine biT_le rfl (n_le (by omega) (by omega)) ?_
            refine RT_step (pc2 := 51) rfl (fun _ _ => rfl) ?_
            refine RT_step (pc2 := 52) rfl (fun _ _ => rfl) ?_
            refine ow_gf rfl rfl rfl hlen rfl ?_
            refine rt_ico rfl ki_1 ?_
            refine ba_iadd rfl ?_
            rw [n_add]
            refine ow_pf (l2 := ((1, tcl n lim a kd pl 27 le nu tk (Int32.ofNat 0) fp) :: (2, bcl bs) :: [(13, dcl13 P Dn lw cl id gl bo), (14, lng pn), (15, ia ri), (16, ia lf), (17, ia wa), (18, ia fo), (19, lng dn), (20, ia ha), (21, ia pa), (22, ia bl), (115, .inr (7, [.int (Int32.ofNat (o + 1)), .int (Int32.ofNat s), .ref 116, .ref 117, .ref 118, .ref 119])), (116, wrd ws), (117, ia sgl), (118, ia nbl)])) rfl rfl rfl rfl rfl hlen rfl rfl ?_
            refine RT_step (pc2 := 61) rfl (fun _ _ => rfl) ?_
            refine ow_gf rfl rfl rfl hlen rfl ?_
            refine RT_step (pc2 := 66) rfl (fun _ _ => rfl) ?_
            refine RT_step (pc2 := 67) rfl (fun _ _ => rfl) ?_
            refine ow_iv0 (l2 := ((1, tcl n lim a1 kd1 pl1 w1 le1 nu1 tk (Int32.ofNat 0) fp1) :: (2, bcl bs) :: [(13, dcl13 P Dn lw cl id gl bo), (14, lng pn), (15, ia ri), (16, ia lf), (17, ia wa), (18, ia fo), (19, lng dn), (20, ia ha), (21, ia pa), (22, ia bl), (115, .inr (7, [.int (Int32.ofNat (o + 1)), .int (Int32.ofNat s), .ref 116, .ref 117, .ref 118, .ref 119])), (116, wrd ws), (117, ia sgl), (118, ia nbl)])) rfl rfl rfl rfl hlen rfl rfl rfl ((x1 _ (ov_hl hlen) (ov_at rfl (ov_lt hlen (by decide))) (ov_at rfl (ov_lt hlen (by decide)))).up (by omega)) rfl ?_
            refine RT_step (pc2 := 72) rfl (fun _ _ => rfl) ?_
            refine bcT_eq rfl rfl ?_
            refine RT_step (pc2 := 105) rfl (fun _ _ => rfl) ?_
            refine RT_step (pc2 := 107) rfl (fun _ _ => rfl) ?_
            refine rt_ord rfl (by decide) rfl ?_
            refine rt_isw rfl (v := 17) (by decide +kernel) ?_
            refine RT_step (pc2 := 170) rfl (fun _ _ => rfl) ?_
            refine RT_step (pc2 := 171) rfl (fun _ _ => rfl) ?_
            refine RT_step (pc2 := 172) rfl (fun _ _ => rfl) ?_
            refine RT_step (pc2 := 173) rfl (fun _ _ => rfl) ?_
            refine ow_iv1 (l2 := ((1, tcl n lim a2 kd2 pl2 w2 le2 nu2 tk2 (Int32.ofNat 0) fp2) :: (2, bcl bs) :: [(13, dcl13 P Dn lw cl id gl bo), (14, lng pn), (15, ia ri), (16, ia lf), (17, ia wa), (18, ia fo), (19, lng dn), (20, ia ha), (21, ia pa), (22, ia bl), (115, .inr (7, [.int (Int32.ofNat (o + 1)), .int (Int32.ofNat s2), .ref 116, .ref 117, .ref 118, .ref 119])), (116, wrd ws2), (117, ia sl2), (118, ia nb2)])) rfl rfl rfl rfl hlen rfl rfl rfl ((h.1 H hlen).up (by omega)) rfl ?_
            exact ow_irt rfl rfl rfl
          · refine FR_st2 (l2 := ((180, mcl (Int32.ofNat 0) (Int32.ofNat 0) n lim a2 pl2 (km kd2) nm2 sg2 (Int32.ofNat 0) qm2 wd2 td2 (posn vs (nn + 1) (o + 1) wi nn)) :: (181, mtl ts) :: [(182, ia nw), (187, lng nz), (202, ia nl2)])) rfl rfl rfl ?_
            refine RT_step (pc2 := 1) rfl (fun _ _ => rfl) ?_
            refine rt_bip rfl k8_40 ?_
            refine ow_iv1 (l2 := ((180, mcl (Int32.ofNat 0) (Int32.ofNat 0) n lim a pl (km kd) nm sg (Int32.ofNat 0) qm wd td (posn vs nn o wi tp)) :: (181, mtl ts) :: [(182, ia nw), (187, lng nz), (202, ia nl)])) rfl rfl rfl rfl hlen rfl rfl rfl ((m_isSign (ov_hl hlen) (ov_at rfl (ov_lt hlen (by decide))) hk (c := 40) (s := sv) (by decide) sv1 sv3).up (by omega)) rfl ?_
            refine RT_step (pc2 := 7) rfl (fun _ _ => rfl) ?_
            rw [bq, g]
            refine rt_bip rfl k8_19 ?_
            refine RT_step (pc2 := 10) rfl (fun _ _ => rfl) ?_
            refine m_wl (z := b01 false) hlen hk 11 19 _ rfl rfl rfl rfl (fun L2 l0 l1 l2 => ?_)
            rw [wj_eq t 11 19 rfl, jw] at l2
            refine rt_ild rfl l1 ?_
            refine bcT_ne rfl rfl ?_
            refine rt_ild rfl l2 ?_
            refine rt_bip rfl k8_29 ?_
            refine biT_le rfl (n_le (by omega) (by omega)) ?_
            refine rt_ald rfl l0 ?_
            refine ow_gf rfl rfl rfl hlen rfl ?_
            refine rt_bip rfl k8_20 ?_
            refine biF_eq rfl (n_ne (by omega) (by omega) (by omega)) ?_
            refine rt_ald rfl l0 ?_
            refine ow_gf rfl rfl rfl hlen rfl ?_
            refine rt_bip rfl k8_8 ?_
            refine biF_ne rfl (n_ne (by omega) (by omega) (by omega)) ?_
            refine rt_ald rfl l0 ?_
            refine RT_step (pc2 := 72) rfl (fun _ _ => rfl) ?_
            refine ow_gf rfl rfl rfl hlen rfl ?_
            refine rt_ico rfl ki_1 ?_
            refine ba_iadd rfl ?_
            rw [n_add]
            refine ow_pf (l2 := ((180, mcl (Int32.ofNat 0) (Int32.ofNat 0) n lim a pl (km kd) nm sg (Int32.ofNat 0) qm wd td (posn vs nn (o + 1) wi tp)) :: (181, mtl ts) :: [(182, ia nw), (187, lng nz), (202, ia nl)])) rfl rfl rfl rfl rfl hlen rfl rfl ?_
            refine rt_ald rfl l0 ?_
            refine RT_step (pc2 := 82) rfl (fun _ _ => rfl) ?_
            refine ow_gf rfl rfl rfl hlen rfl ?_
            refine rt_ico rfl ki_1 ?_
            refine ba_iadd rfl ?_
            rw [n_add]
            refine ow_pf (l2 := ((180, mcl (Int32.ofNat 0) (Int32.ofNat 0) n lim a pl (km kd) nm sg (Int32.ofNat 0) qm wd td (posn vs nn (o + 1) (wi + 1) tp)) :: (181, mtl ts) :: [(182, ia nw), (187, lng nz), (202, ia nl)])) rfl rfl rfl rfl rfl hlen rfl rfl ?_
            refine rt_ald rfl l0 ?_
            refine ow_iv0 (l2 := ((180, mcl (Int32.ofNat 0) (Int32.ofNat 0) n lim a1 pl1 (km kd1) nm1 sg1 (Int32.ofNat 0) qm1 wd1 td (posn vs nn (o + 1) (wi + 1) tp)) :: (181, mtl ts) :: [(182, ia nw), (187, lng nz), (202, ia nl)])) rfl rfl rfl rfl hlen rfl rfl rfl ((m1 _ (ov_hl hlen) (ov_at rfl (ov_lt hlen (by decide))) (ov_at rfl (ov_lt hlen (by decide)))).up (by omega)) rfl ?_
            refine rt_ico rfl ki_1 ?_
            refine rt_ist rfl (by decide +kernel) ?_
            refine rt_ild rfl (gs_o rfl l1 rfl) ?_
            refine bcT_eq rfl rfl ?_
            refine rt_ild rfl (gs_o rfl l2 rfl) ?_
            refine rt_bip rfl k8_19 ?_
            refine biF_ne rfl (by decide) ?_
            refine rt_ild rfl (gs_o rfl l2 rfl) ?_
            refine rt_bip rfl k8_25 ?_
            refine biT_ge rfl (n_le (by omega) (by omega)) ?_
            refine rt_ild rfl (gs_o rfl l2 rfl) ?_
            refine rt_bip rfl k8_26 ?_
            refine biF_ge rfl (n_nle (by omega) (by omega)) ?_
            refine rt_ald rfl (gs_o rfl l0 rfl) ?_
            refine rt_ild rfl (gs_o rfl l2 rfl) ?_
            refine ow_iv1 (l2 := ((180, mcl (Int32.ofNat 0) (Int32.ofNat 0) n lim a2 pl2 (km kd2) nm2 sg2 (Int32.ofNat 0) qm2 wd2 td2 (posn vs (nn + 1) (o + 1) (wi + 1) nn)) :: (181, mtl ts) :: [(182, ia nw), (187, lng nz), (202, ia nl2)])) rfl rfl rfl rfl hlen rfl rfl rfl ((h.2 H hlen).up (by omega)) rfl ?_
            refine RT_step (pc2 := 165) rfl (fun _ _ => rfl) ?_
            refine rt_ist rfl (by decide +kernel) ?_
            refine rt_ald rfl (gs_o rfl (gs_o rfl l0 rfl) rfl) ?_
            refine RT_step (pc2 := 168) rfl (fun _ _ => rfl) ?_
            refine ow_gf rfl rfl rfl hlen rfl ?_
            refine rt_ico rfl ki_1 ?_
            refine ba_isub rfl ?_
            rw [n_sub (by omega), Nat.add_sub_cancel]
            refine ow_pf (l2 := ((180, mcl (Int32.ofNat 0) (Int32.ofNat 0) n lim a2 pl2 (km kd2) nm2 sg2 (Int32.ofNat 0) qm2 wd2 td2 (posn vs (nn + 1) (o + 1) wi nn)) :: (181, mtl ts) :: [(182, ia nw), (187, lng nz), (202, ia nl2)])) rfl rfl rfl rfl rfl hlen rfl rfl ?_
            refine rt_ild rfl gs_n ?_
            exact ow_irt rfl rfl rfl
    · rcases cw with rfl | rfl | rfl | rfl
      · have hk1 := w_k1 t (by omega)
        by_cases cf : o = 20 ∨ wi = 8
        · obtain ⟨T, M, f, hx, hm⟩ := s_ref (bs := bs) (ts := ts) (lim := lim) (po := (posn vs nn o wi tp)) (pl := pl) (tk := tk) (td := td) (fp := fp) (plM := qm) t (kk := 4) (by decide) (by decide) (Or.inl (by omega))
          refine Or.inl ⟨T, M, o, s, nn, tp, ws, sgl, nbl, nl, f, sx, ?_⟩
          by_cases co : o = 20
          · refine ⟨fun H hlen => ?_, fun H hlen => ?_⟩
            · refine FR_st2 (l2 := ((1, T) :: (2, bcl bs) :: [(13, dcl13 P Dn lw cl id gl bo), (14, lng pn), (15, ia ri), (16, ia lf), (17, ia wa), (18, ia fo), (19, lng dn), (20, ia ha), (21, ia pa), (22, ia bl), (115, .inr (7, [.int (Int32.ofNat o), .int (Int32.ofNat s), .ref 116, .ref 117, .ref 118, .ref 119])), (116, wrd ws), (117, ia sgl), (118, ia nbl)])) rfl rfl rfl ?_
              refine RT_step (pc2 := 1) rfl (fun _ _ => rfl) ?_
              refine rt_bip rfl k8_40 ?_
              refine ow_iv1 (l2 := ((1, tcl n lim a kd pl 28 le nu tk (Int32.ofNat 0) fp) :: (2, bcl bs) :: [(13, dcl13 P Dn lw cl id gl bo), (14, lng pn), (15, ia ri), (16, ia lf), (17, ia wa), (18, ia fo), (19, lng dn), (20, ia ha), (21, ia pa), (22, ia bl), (115, .inr (7, [.int (Int32.ofNat o), .int (Int32.ofNat s), .ref 116, .ref 117, .ref 118, .ref 119])), (116, wrd ws), (117, ia sgl), (118, ia nbl)])) rfl rfl rfl rfl hlen rfl rfl rfl ((x_isMarkHere (ov_hl hlen) (ov_at rfl (ov_lt hlen (by decide))) hk5 (c := 40) (s := sv) (by decide) sv1 sv2).up (by omega)) rfl ?_
              rw [g]
              refine RT_step (pc2 := 8) rfl (fun _ _ => rfl) ?_
              refine RT_step (pc2 := 10) rfl (fun _ _ => rfl) ?_
              refine bcT_ne rfl rfl ?_
              refine RT_step (pc2 := 14) rfl (fun _ _ => rfl) ?_
              refine ow_gf rfl rfl rfl hlen rfl ?_
              refine ow_is1 (l2 := ((1, tcl n lim a kd pl 28 le nu tk (Int32.ofNat 0) fp) :: (2, bcl bs) :: [(13, dcl13 P Dn lw cl id gl bo), (14, lng pn), (15, ia ri), (16, ia lf), (17, ia wa), (18, ia fo), (19, lng dn), (20, ia ha), (21, ia pa), (22, ia bl), (115, .inr (7, [.int (Int32.ofNat o), .int (Int32.ofNat s), .ref 116, .ref 117, .ref 118, .ref 119])), (116, wrd ws), (117, ia sgl), (118, ia nbl)])) rfl rfl rfl rfl rfl ((x_beg_t (H := ov H ((1, tcl n lim a kd pl 28 le nu tk (Int32.ofNat 0) fp) :: (2, bcl bs) :: [(13, dcl13 P Dn lw cl id gl bo), (14, lng pn), (15, ia ri), (16, ia lf), (17, ia wa), (18, ia fo), (19, lng dn), (20, ia ha), (21, ia pa), (22, ia bl), (115, .inr (7, [.int (Int32.ofNat o), .int (Int32.ofNat s), .ref 116, .ref 117, .ref 118, .ref 119])), (116, wrd ws), (117, ia sgl), (118, ia nbl)])) (by decide)).up (by omega)) rfl ?_
              refine bcF_ne rfl (by decide) ?_
              refine RT_step (pc2 := 30) rfl (fun _ _ => rfl) ?_
              refine ow_gf rfl rfl rfl hlen rfl ?_
              refine rt_bip rfl k8_20 ?_
              refine biT_ge rfl (n_le (by omega) (by omega)) ?_
              refine RT_step (pc2 := 45) rfl (fun _ _ => rfl) ?_
              refine rt_ico rfl ki_4 ?_
              refine ow_iv1 (l2 := ((1, T) :: (2, bcl bs) :: [(13, dcl13 P Dn lw cl id gl bo), (14, lng pn), (15, ia ri), (16, ia lf), (17, ia wa), (18, ia fo), (19, lng dn), (20, ia ha), (21, ia pa), (22, ia bl), (115, .inr (7, [.int (Int32.ofNat o), .int (Int32.ofNat s), .ref 116, .ref 117, .ref 118, .ref 119])), (116, wrd ws), (117, ia sgl), (118, ia nbl)])) rfl rfl rfl rfl hlen rfl rfl rfl ((hx _ (ov_hl hlen) (ov_at rfl (ov_lt hlen (by decide))) (ov_at rfl (ov_lt hlen (by decide)))).up (by omega)) rfl ?_
              exact ow_irt rfl rfl rfl
            · refine FR_st2 (l2 := ((180, M) :: (181, mtl ts) :: [(182, ia nw), (187, lng nz), (202, ia nl)])) rfl rfl rfl ?_
              refine RT_step (pc2 := 1) rfl (fun _ _ => rfl) ?_
              refine rt_bip rfl k8_40 ?_
              refine ow_iv1 (l2 := ((180, mcl (Int32.ofNat 0) (Int32.ofNat 0) n lim a pl (km kd) nm sg (Int32.ofNat 0) qm wd td (posn vs nn o wi tp)) :: (181, mtl ts) :: [(182, ia nw), (187, lng nz), (202, ia nl)])) rfl rfl rfl rfl hlen rfl rfl rfl ((m_isSign (ov_hl hlen) (ov_at rfl (ov_lt hlen (by decide))) hk (c := 40) (s := sv) (by decide) sv1 sv3).up (by omega)) rfl ?_
              refine RT_step (pc2 := 7) rfl (fun _ _ => rfl) ?_
              rw [bq, g]
              refine rt_bip rfl k8_19 ?_
              refine RT_step (pc2 := 10) rfl (fun _ _ => rfl) ?_
              refine m_wl (z := b01 false) hlen hk 11 19 _ rfl rfl rfl rfl (fun L2 l0 l1 l2 => ?_)
              rw [wj_eq t 11 19 rfl, jw] at l2
              refine rt_ild rfl l1 ?_
              refine bcT_ne rfl rfl ?_
              refine rt_ild rfl l2 ?_
              refine rt_bip rfl k8_29 ?_
              refine biT_le rfl (n_le (by omega) (by omega)) ?_
              refine rt_ald rfl l0 ?_
              refine ow_gf rfl rfl rfl hlen rfl ?_
              refine rt_bip rfl k8_20 ?_
              refine biT_eq rfl (n_eq co) ?_
              refine rt_ald rfl l0 ?_
              refine rt_ico rfl ki_4 ?_
              refine ow_iv1 (l2 := ((180, M) :: (181, mtl ts) :: [(182, ia nw), (187, lng nz), (202, ia nl)])) rfl rfl rfl rfl hlen rfl rfl rfl ((hm _ (ov_hl hlen) (ov_at rfl (ov_lt hlen (by decide))) (ov_at rfl (ov_lt hlen (by decide)))).up (by omega)) rfl ?_
              exact ow_irt rfl rfl rfl
          · refine ⟨fun H hlen => ?_, fun H hlen => ?_⟩
            · refine FR_st2 (l2 := ((1, T) :: (2, bcl bs) :: [(13, dcl13 P Dn lw cl id gl bo), (14, lng pn), (15, ia ri), (16, ia lf), (17, ia wa), (18, ia fo), (19, lng dn), (20, ia ha), (21, ia pa), (22, ia bl), (115, .inr (7, [.int (Int32.ofNat o), .int (Int32.ofNat s), .ref 116, .ref 117, .ref 118, .ref 119])), (116, wrd ws), (117, ia sgl), (118, ia nbl)])) rfl rfl rfl ?_
              refine RT_step (pc2 := 1) rfl (fun _ _ => rfl) ?_
              refine rt_bip rfl k8_40 ?_
              refine ow_iv1 (l2 := ((1, tcl n lim a kd pl 28 le nu tk (Int32.ofNat 0) fp) :: (2, bcl bs) :: [(13, dcl13 P Dn lw cl id gl bo), (14, lng pn), (15, ia ri), (16, ia lf), (17, ia wa), (18, ia fo), (19, lng dn), (20, ia ha), (21, ia pa), (22, ia bl), (115, .inr (7, [.int (Int32.ofNat o), .int (Int32.ofNat s), .ref 116, .ref 117, .ref 118, .ref 119])), (116, wrd ws), (117, ia sgl), (118, ia nbl)])) rfl rfl rfl rfl hlen rfl rfl rfl ((x_isMarkHere (ov_hl hlen) (ov_at rfl (ov_lt hlen (by decide))) hk5 (c := 40) (s := sv) (by decide) sv1 sv2).up (by omega)) rfl ?_
              rw [g]
              refine RT_step (pc2 := 8) rfl (fun _ _ => rfl) ?_
              refine RT_step (pc2 := 10) rfl (fun _ _ => rfl) ?_
              refine bcT_ne rfl rfl ?_
              refine RT_step (pc2 := 14) rfl (fun _ _ => rfl) ?_
              refine ow_gf rfl rfl rfl hlen rfl ?_
              refine ow_is1 (l2 := ((1, tcl n lim a kd pl 28 le nu tk (Int32.ofNat 0) fp) :: (2, bcl bs) :: [(13, dcl13 P Dn lw cl id gl bo), (14, lng pn), (15, ia ri), (16, ia lf), (17, ia wa), (18, ia fo), (19, lng dn), (20, ia ha), (21, ia pa), (22, ia bl), (115, .inr (7, [.int (Int32.ofNat o), .int (Int32.ofNat s), .ref 116, .ref 117, .ref 118, .ref 119])), (116, wrd ws), (117, ia sgl), (118, ia nbl)])) rfl rfl rfl rfl rfl ((x_beg_t (H := ov H ((1, tcl n lim a kd pl 28 le nu tk (Int32.ofNat 0) fp) :: (2, bcl bs) :: [(13, dcl13 P Dn lw cl id gl bo), (14, lng pn), (15, ia ri), (16, ia lf), (17, ia wa), (18, ia fo), (19, lng dn), (20, ia ha), (21, ia pa), (22, ia bl), (115, .inr (7, [.int (Int32.ofNat o), .int (Int32.ofNat s), .ref 116, .ref 117, .ref 118, .ref 119])), (116, wrd ws), (117, ia sgl), (118, ia nbl)])) (by decide)).up (by omega)) rfl ?_
              refine bcF_ne rfl (by decide) ?_
              refine RT_step (pc2 := 30) rfl (fun _ _ => rfl) ?_
              refine ow_gf rfl rfl rfl hlen rfl ?_
              refine rt_bip rfl k8_20 ?_
              refine biF_ge rfl (n_nle (by omega) (by omega)) ?_
              refine RT_step (pc2 := 39) rfl (fun _ _ => rfl) ?_
              refine rt_bip rfl k8_8 ?_
              refine biF_le rfl (n_nle (by omega) (by omega)) ?_
              refine RT_step (pc2 := 45) rfl (fun _ _ => rfl) ?_
              refine rt_ico rfl ki_4 ?_
              refine ow_iv1 (l2 := ((1, T) :: (2, bcl bs) :: [(13, dcl13 P Dn lw cl id gl bo), (14, lng pn), (15, ia ri), (16, ia lf), (17, ia wa), (18, ia fo), (19, lng dn), (20, ia ha), (21, ia pa), (22, ia bl), (115, .inr (7, [.int (Int32.ofNat o), .int (Int32.ofNat s), .ref 116, .ref 117, .ref 118, .ref 119])), (116, wrd ws), (117, ia sgl), (118, ia nbl)])) rfl rfl rfl rfl hlen rfl rfl rfl ((hx _ (ov_hl hlen) (ov_at rfl (ov_lt hlen (by decide))) (ov_at rfl (ov_lt hlen (by decide)))).up (by omega)) rfl ?_
              exact ow_irt rfl rfl rfl
            · refine FR_st2 (l2 := ((180, M) :: (181, mtl ts) :: [(182, ia nw), (187, lng nz), (202, ia nl)])) rfl rfl rfl ?_
              refine RT_step (pc2 := 1) rfl (fun _ _ => rfl) ?_
              refine rt_bip rfl k8_40 ?_
              refine ow_iv1 (l2 := ((180, mcl (Int32.ofNat 0) (Int32.ofNat 0) n lim a pl (km kd) nm sg (Int32.ofNat 0) qm wd td (posn vs nn o wi tp)) :: (181, mtl ts) :: [(182, ia nw), (187, lng nz), (202, ia nl)])) rfl rfl rfl rfl hlen rfl rfl rfl ((m_isSign (ov_hl hlen) (ov_at rfl (ov_lt hlen (by decide))) hk (c := 40) (s := sv) (by decide) sv1 sv3).up (by omega)) rfl ?_
              refine RT_step (pc2 := 7) rfl (fun _ _ => rfl) ?_
              rw [bq, g]
              refine rt_bip rfl k8_19 ?_
              refine RT_step (pc2 := 10) rfl (fun _ _ => rfl) ?_
              refine m_wl (z := b01 false) hlen hk 11 19 _ rfl rfl rfl rfl (fun L2 l0 l1 l2 => ?_)
              rw [wj_eq t 11 19 rfl, jw] at l2
              refine rt_ild rfl l1 ?_
              refine bcT_ne rfl rfl ?_
              refine rt_ild rfl l2 ?_
              refine rt_bip rfl k8_29 ?_
              refine biT_le rfl (n_le (by omega) (by omega)) ?_
              refine rt_ald rfl l0 ?_
              refine ow_gf rfl rfl rfl hlen rfl ?_
              refine rt_bip rfl k8_20 ?_
              refine biF_eq rfl (n_ne co (by omega) (by omega)) ?_
              refine rt_ald rfl l0 ?_
              refine ow_gf rfl rfl rfl hlen rfl ?_
              refine rt_bip rfl k8_8 ?_
              refine biT_ne rfl (n_eq (by omega)) ?_
              refine rt_ald rfl l0 ?_
              refine rt_ico rfl ki_4 ?_
              refine ow_iv1 (l2 := ((180, M) :: (181, mtl ts) :: [(182, ia nw), (187, lng nz), (202, ia nl)])) rfl rfl rfl rfl hlen rfl rfl rfl ((hm _ (ov_hl hlen) (ov_at rfl (ov_lt hlen (by decide))) (ov_at rfl (ov_lt hlen (by decide)))).up (by omega)) rfl ?_
              exact ow_irt rfl rfl rfl
        · obtain ⟨T1, M1, c1, x1, m1⟩ := s_adv hB hM hb hn hl (po := (posn vs nn (o + 1) (wi + 1) tp)) (pl := pl) (tk := tk) (td := td) (fp := fp) (plM := qm) t (by omega) (by omega)
          obtain ⟨a1, kd1, pl1, w1, le1, nu1, fp1, nm1, sg1, qm1, wd1, rfl, rfl, t1⟩ := c1
          rcases sm13_115 hB hM hb hn hl (pl := pl1) (tk := tk) (td := td) (fp := fp1) (qm := qm1) (o := o + 1) (nn := nn) (wi := wi + 1) (tp := tp) t1 sx ln (by omega) (by omega) (by omega) (w0 := 28) (j0 := j) (by decide) (by omega) with ⟨T, M, f, h⟩ | ⟨tk2, td2, T, M, s2, ws2, sl2, nb2, nl2, c2, sx2, ln2, h⟩
          · have f0 := f
            obtain ⟨a9, kd9, pl9, w9, le9, nu9, tk9, kk9, am9, fm9, kM9, nm9, sg9, fa9, qm9, wd9, td9, rfl, rfl, f9⟩ := f
            refine Or.inl ⟨tcl n lim a9 kd9 pl9 w9 le9 nu9 tk9 (Int32.ofNat kk9) (Int32.ofNat pl9), mcl (Int32.ofNat 0) (Int32.ofNat 0) n lim am9 fm9 kM9 nm9 sg9 fa9 qm9 wd9 td9 (posn vs nn (o + 1) wi tp), (o + 1), s, nn, tp, ws, sgl, nbl, nl, ⟨a9, kd9, pl9, w9, le9, nu9, tk9, kk9, am9, fm9, kM9, nm9, sg9, fa9, qm9, wd9, td9, rfl, rfl, f9⟩, sx, fun H hlen => ?_, fun H hlen => ?_⟩
            · refine FR_st2 (l2 := ((1, tcl n lim a9 kd9 pl9 w9 le9 nu9 tk9 (Int32.ofNat kk9) (Int32.ofNat pl9)) :: (2, bcl bs) :: [(13, dcl13 P Dn lw cl id gl bo), (14, lng pn), (15, ia ri), (16, ia lf), (17, ia wa), (18, ia fo), (19, lng dn), (20, ia ha), (21, ia pa), (22, ia bl), (115, .inr (7, [.int (Int32.ofNat (o + 1)), .int (Int32.ofNat s), .ref 116, .ref 117, .ref 118, .ref 119])), (116, wrd ws), (117, ia sgl), (118, ia nbl)])) rfl rfl rfl ?_
              refine RT_step (pc2 := 1) rfl (fun _ _ => rfl) ?_
              refine rt_bip rfl k8_40 ?_
              refine ow_iv1 (l2 := ((1, tcl n lim a kd pl 28 le nu tk (Int32.ofNat 0) fp) :: (2, bcl bs) :: [(13, dcl13 P Dn lw cl id gl bo), (14, lng pn), (15, ia ri), (16, ia lf), (17, ia wa), (18, ia fo), (19, lng dn), (20, ia ha), (21, ia pa), (22, ia bl), (115, .inr (7, [.int (Int32.ofNat o), .int (Int32.ofNat s), .ref 116, .ref 117, .ref 118, .ref 119])), (116, wrd ws), (117, ia sgl), (118, ia nbl)])) rfl rfl rfl rfl hlen rfl rfl rfl ((x_isMarkHere (ov_hl hlen) (ov_at rfl (ov_lt hlen (by decide))) hk5 (c := 40) (s := sv) (by decide) sv1 sv2).up (by omega)) rfl ?_
              rw [g]
              refine RT_step (pc2 := 8) rfl (fun _ _ => rfl) ?_
              refine RT_step (pc2 := 10) rfl (fun _ _ => rfl) ?_
              refine bcT_ne rfl rfl ?_
              refine RT_step (pc2 := 14) rfl (fun _ _ => rfl) ?_
              refine ow_gf rfl rfl rfl hlen rfl ?_
              refine ow_is1 (l2 := ((1, tcl n lim a kd pl 28 le nu tk (Int32.ofNat 0) fp) :: (2, bcl bs) :: [(13, dcl13 P Dn lw cl id gl bo), (14, lng pn), (15, ia ri), (16, ia lf), (17, ia wa), (18, ia fo), (19, lng dn), (20, ia ha), (21, ia pa), (22, ia bl), (115, .inr (7, [.int (Int32.ofNat o), .int (Int32.ofNat s), .ref 116, .ref 117, .ref 118, .ref 119])), (116, wrd ws), (117, ia sgl), (118, ia nbl)])) rfl rfl rfl rfl rfl ((x_beg_t (H := ov H ((1, tcl n lim a kd pl 28 le nu tk (Int32.ofNat 0) fp) :: (2, bcl bs) :: [(13, dcl13 P Dn lw cl id gl bo), (14, lng pn), (15, ia ri), (16, ia lf), (17, ia wa), (18, ia fo), (19, lng dn), (20, ia ha), (21, ia pa), (22, ia bl), (115, .inr (7, [.int (Int32.ofNat o), .int (Int32.ofNat s), .ref 116, .ref 117, .ref 118, .ref 119])), (116, wrd ws), (117, ia sgl), (118, ia nbl)])) (by decide)).up (by omega)) rfl ?_
              refine bcF_ne rfl (by decide) ?_
              refine RT_step (pc2 := 30) rfl (fun _ _ => rfl) ?_
              refine ow_gf rfl rfl rfl hlen rfl ?_
              refine rt_bip rfl k8_20 ?_
              refine biF_ge rfl (n_nle (by omega) (by omega)) ?_
              refine RT_step (pc2 := 39) rfl (fun _ _ => rfl) ?_
              refine rt_bip rfl k8_8 ?_
              refine biT_le rfl (n_le (by omega) (by omega)) ?_
              refine RT_step (pc2 := 51) rfl (fun _ _ => rfl) ?_
              refine RT_step (pc2 := 52) rfl (fun _ _ => rfl) ?_
              refine ow_gf rfl rfl rfl hlen rfl ?_
              refine rt_ico rfl ki_1 ?_
              refine ba_iadd rfl ?_
              rw [n_add]
              refine ow_pf (l2 := ((1, tcl n lim a kd pl 28 le nu tk (Int32.ofNat 0) fp) :: (2, bcl bs) :: [(13, dcl13 P Dn lw cl id gl bo), (14, lng pn), (15, ia ri), (16, ia lf), (17, ia wa), (18, ia fo), (19, lng dn), (20, ia ha), (21, ia pa), (22, ia bl), (115, .inr (7, [.int (Int32.ofNat (o + 1)), .int (Int32.ofNat s), .ref 116, .ref 117, .ref 118, .ref 119])), (116, wrd ws), (117, ia sgl), (118, ia nbl)])) rfl rfl rfl rfl rfl hlen rfl rfl ?_
              refine RT_step (pc2 := 61) rfl (fun _ _ => rfl) ?_
              refine ow_gf rfl rfl rfl hlen rfl ?_
              refine RT_step (pc2 := 66) rfl (fun _ _ => rfl) ?_
              refine RT_step (pc2 := 67) rfl (fun _ _ => rfl) ?_
              refine ow_iv0 (l2 := ((1, tcl n lim a1 kd1 pl1 w1 le1 nu1 tk (Int32.ofNat 0) fp1) :: (2, bcl bs) :: [(13, dcl13 P Dn lw cl id gl bo), (14, lng pn), (15, ia ri), (16, ia lf), (17, ia wa), (18, ia fo), (19, lng dn), (20, ia ha), (21, ia pa), (22, ia bl), (115, .inr (7, [.int (Int32.ofNat (o + 1)), .int (Int32.ofNat s), .ref 116, .ref 117, .ref 118, .ref 119])), (116, wrd ws), (117, ia sgl), (118, ia nbl)])) rfl rfl rfl rfl hlen rfl rfl rfl ((x1 _ (ov_hl hlen) (ov_at rfl (ov_lt hlen (by decide))) (ov_at rfl (ov_lt hlen (by decide)))).up (by omega)) rfl ?_
              refine RT_step (pc2 := 72) rfl (fun _ _ => rfl) ?_
              refine bcT_eq rfl rfl ?_
              refine RT_step (pc2 := 105) rfl (fun _ _ => rfl) ?_
              refine RT_step (pc2 := 107) rfl (fun _ _ => rfl) ?_
              refine rt_ord rfl (by decide) rfl ?_
              refine rt_isw rfl (v := 18) (by decide +kernel) ?_
              refine RT_step (pc2 := 177) rfl (fun _ _ => rfl) ?_
              refine RT_step (pc2 := 178) rfl (fun _ _ => rfl) ?_
              refine RT_step (pc2 := 179) rfl (fun _ _ => rfl) ?_
              refine RT_step (pc2 := 181) rfl (fun _ _ => rfl) ?_
              refine ow_iv1 (l2 := ((1, tcl n lim a9 kd9 pl9 w9 le9 nu9 tk9 (Int32.ofNat kk9) (Int32.ofNat pl9)) :: (2, bcl bs) :: [(13, dcl13 P Dn lw cl id gl bo), (14, lng pn), (15, ia ri), (16, ia lf), (17, ia wa), (18, ia fo), (19, lng dn), (20, ia ha), (21, ia pa), (22, ia bl), (115, .inr (7, [.int (Int32.ofNat (o + 1)), .int (Int32.ofNat s), .ref 116, .ref 117, .ref 118, .ref 119])), (116, wrd ws), (117, ia sgl), (118, ia nbl)])) rfl rfl rfl rfl hlen rfl rfl rfl ((h.1 H hlen).up (by omega)) rfl ?_
              exact ow_irt rfl rfl rfl
            · refine FR_st2 (l2 := ((180, mcl (Int32.ofNat 0) (Int32.ofNat 0) n lim am9 fm9 kM9 nm9 sg9 fa9 qm9 wd9 td9 (posn vs nn (o + 1) wi tp)) :: (181, mtl ts) :: [(182, ia nw), (187, lng nz), (202, ia nl)])) rfl rfl rfl ?_
              refine RT_step (pc2 := 1) rfl (fun _ _ => rfl) ?_
              refine rt_bip rfl k8_40 ?_
              refine ow_iv1 (l2 := ((180, mcl (Int32.ofNat 0) (Int32.ofNat 0) n lim a pl (km kd) nm sg (Int32.ofNat 0) qm wd td (posn vs nn o wi tp)) :: (181, mtl ts) :: [(182, ia nw), (187, lng nz), (202, ia nl)])) rfl rfl rfl rfl hlen rfl rfl rfl ((m_isSign (ov_hl hlen) (ov_at rfl (ov_lt hlen (by decide))) hk (c := 40) (s := sv) (by decide) sv1 sv3).up (by omega)) rfl ?_
              refine RT_step (pc2 := 7) rfl (fun _ _ => rfl) ?_
              rw [bq, g]
              refine rt_bip rfl k8_19 ?_
              refine RT_step (pc2 := 10) rfl (fun _ _ => rfl) ?_
              refine m_wl (z := b01 false) hlen hk 11 19 _ rfl rfl rfl rfl (fun L2 l0 l1 l2 => ?_)
              rw [wj_eq t 11 19 rfl, jw] at l2
              refine rt_ild rfl l1 ?_
              refine bcT_ne rfl rfl ?_
              refine rt_ild rfl l2 ?_
              refine rt_bip rfl k8_29 ?_
              refine biT_le rfl (n_le (by omega) (by omega)) ?_
              refine rt_ald rfl l0 ?_
              refine ow_gf rfl rfl rfl hlen rfl ?_
              refine rt_bip rfl k8_20 ?_
              refine biF_eq rfl (n_ne (by omega) (by omega) (by omega)) ?_
              refine rt_ald rfl l0 ?_
              refine ow_gf rfl rfl rfl hlen rfl ?_
              refine rt_bip rfl k8_8 ?_
              refine biF_ne rfl (n_ne (by omega) (by omega) (by omega)) ?_
              refine rt_ald rfl l0 ?_
              refine RT_step (pc2 := 72) rfl (fun _ _ => rfl) ?_
              refine ow_gf rfl rfl rfl hlen rfl ?_
              refine rt_ico rfl ki_1 ?_
              refine ba_iadd rfl ?_
              rw [n_add]
              refine ow_pf (l2 := ((180, mcl (Int32.ofNat 0) (Int32.ofNat 0) n lim a pl (km kd) nm sg (Int32.ofNat 0) qm wd td (posn vs nn (o + 1) wi tp)) :: (181, mtl ts) :: [(182, ia nw), (187, lng nz), (202, ia nl)])) rfl rfl rfl rfl rfl hlen rfl rfl ?_
              refine rt_ald rfl l0 ?_
              refine RT_step (pc2 := 82) rfl (fun _ _ => rfl) ?_
              refine ow_gf rfl rfl rfl hlen rfl ?_
              refine rt_ico rfl ki_1 ?_
              refine ba_iadd rfl ?_
              rw [n_add]
              refine ow_pf (l2 := ((180, mcl (Int32.ofNat 0) (Int32.ofNat 0) n lim a pl (km kd) nm sg (Int32.ofNat 0) qm wd td (posn vs nn (o + 1) (wi + 1) tp)) :: (181, mtl ts) :: [(182, ia nw), (187, lng nz), (202, ia nl)])) rfl rfl rfl rfl rfl hlen rfl rfl ?_
              refine rt_ald rfl l0 ?_
              refine ow_iv0 (l2 := ((180, mcl (Int32.ofNat 0) (Int32.ofNat 0) n lim a1 pl1 (km kd1) nm1 sg1 (Int32.ofNat 0) qm1 wd1 td (posn vs nn (o + 1) (wi + 1) tp)) :: (181, mtl ts) :: [(182, ia nw), (187, lng nz), (202, ia nl)])) rfl rfl rfl rfl hlen rfl rfl rfl ((m1 _ (ov_hl hlen) (ov_at rfl (ov_lt hlen (by decide))) (ov_at rfl (ov_lt hlen (by decide)))).up (by omega)) rfl ?_
              refine rt_ico rfl ki_1 ?_
              refine rt_ist rfl (by decide +kernel) ?_
              refine rt_ild rfl (gs_o rfl l1 rfl) ?_
              refine bcT_eq rfl rfl ?_
              refine rt_ild rfl (gs_o rfl l2 rfl) ?_
              refine rt_bip rfl k8_19 ?_
              refine biF_ne rfl (n_ne (by omega) (by omega) (by omega)) ?_
              refine rt_ild rfl (gs_o rfl l2 rfl) ?_
              refine rt_bip rfl k8_25 ?_
              refine biT_ge rfl (n_le (by omega) (by omega)) ?_
              refine rt_ild rfl (gs_o rfl l2 rfl) ?_
              refine rt_bip rfl k8_26 ?_
              refine biT_ge rfl (n_le (by omega) (by omega)) ?_
              refine rt_ald rfl (gs_o rfl l0 rfl) ?_
              refine rt_ild rfl (gs_o rfl l2 rfl) ?_
              refine ow_iv1 (l2 := ((180, mcl (Int32.ofNat 0) (Int32.ofNat 0) n lim am9 fm9 kM9 nm9 sg9 fa9 qm9 wd9 td9 (posn vs nn (o + 1) (wi + 1) tp)) :: (181, mtl ts) :: [(182, ia nw), (187, lng nz), (202, ia nl)])) rfl rfl rfl rfl hlen rfl rfl rfl ((h.2 H hlen).up (by omega)) rfl ?_
              refine rt_ist rfl (by decide +kernel) ?_
              refine rt_ald rfl (gs_o rfl (gs_o rfl l0 rfl) rfl) ?_
              refine RT_step (pc2 := 168) rfl (fun _ _ => rfl) ?_
              refine ow_gf rfl rfl rfl hlen rfl ?_
              refine rt_ico rfl ki_1 ?_
              refine ba_isub rfl ?_
              rw [n_sub (by omega), Nat.add_sub_cancel]
              refine ow_pf (l2 := ((180, mcl (Int32.ofNat 0) (Int32.ofNat 0) n lim am9 fm9 kM9 nm9 sg9 fa9 qm9 wd9 td9 (posn vs nn (o + 1) wi tp)) :: (181, mtl ts) :: [(182, ia nw), (187, lng nz), (202, ia nl)])) rfl rfl rfl rfl rfl hlen rfl rfl ?_
              refine rt_ild rfl gs_n ?_
              exact ow_irt rfl rfl rfl
          · obtain ⟨a2, kd2, pl2, w2, le2, nu2, fp2, nm2, sg2, qm2, wd2, rfl, rfl, t2⟩ := c2
            refine Or.inr ⟨(k + 1 + 2), tk2, td2, tcl n lim a2 kd2 pl2 w2 le2 nu2 tk2 (Int32.ofNat 0) fp2, mcl (Int32.ofNat 0) (Int32.ofNat 0) n lim a2 pl2 (km kd2) nm2 sg2 (Int32.ofNat 0) qm2 wd2 td2 (posn vs (nn + 1) (o + 1) wi nn), (o + 1), s2, (nn + 1), nn, ws2, sl2, nb2, nl2, (tf_td t2), by omega, by omega, by omega, by omega, ?_, ?_, fun H hlen => ?_, fun H hlen => ?_⟩
            · exact sx2
            · exact ln2
            · refine FR_st2 (l2 := ((1, tcl n lim a2 kd2 pl2 w2 le2 nu2 tk2 (Int32.ofNat 0) fp2) :: (2, bcl bs) :: [(13, dcl13 P Dn lw cl id gl bo), (14, lng pn), (15, ia ri), (16, ia lf), (17, ia wa), (18, ia fo), (19, lng dn), (20, ia ha), (21, ia pa), (22, ia bl), (115, .inr (7, [.int (Int32.ofNat (o + 1)), .int (Int32.ofNat s2), .ref 116, .ref 117, .ref 118, .ref 119])), (116, wrd ws2), (117, ia sl2), (118, ia nb2)])) rfl rfl rfl ?_
              refine RT_step (pc2 := 1) rfl (fun _ _ => rfl) ?_
              refine rt_bip rfl k8_40 ?_
              refine ow_iv1 (l2 := ((1, tcl n lim a kd pl 28 le nu tk (Int32.ofNat 0) fp) :: (2, bcl bs) :: [(13, dcl13 P Dn lw cl id gl bo), (14, lng pn), (15, ia ri), (16, ia lf), (17, ia wa), (18, ia fo), (19, lng dn), (20, ia ha), (21, ia pa), (22, ia bl), (115, .inr (7, [.int (Int32.ofNat o), .int (Int32.ofNat s), .ref 116, .ref 117, .ref 118, .ref 119])), (116, wrd ws), (117, ia sgl), (118, ia nbl)])) rfl rfl rfl rfl hlen rfl rfl rfl ((x_isMarkHere (ov_hl hlen) (ov_at rfl (ov_lt hlen (by decide))) hk5 (c := 40) (s := sv) (by decide) sv1 sv2).up (by omega)) rfl ?_
              rw [g]
              refine RT_step (pc2 := 8) rfl (fun _ _ => rfl) ?_
              refine RT_step (pc2 := 10) rfl (fun _ _ => rfl) ?_
              refine bcT_ne rfl rfl ?_
              refine RT_step (pc2 := 14) rfl (fun _ _ => rfl) ?_
              refine ow_gf rfl rfl rfl hlen rfl ?_
              refine ow_is1 (l2 := ((1, tcl n lim a kd pl 28 le nu tk (Int32.ofNat 0) fp) :: (2, bcl bs) :: [(13, dcl13 P Dn lw cl id gl bo), (14, lng pn), (15, ia ri), (16, ia lf), (17, ia wa), (18, ia fo), (19, lng dn), (20, ia ha), (21, ia pa), (22, ia bl), (115, .inr (7, [.int (Int32.ofNat o), .int (Int32.ofNat s), .ref 116, .ref 117, .ref 118, .ref 119])), (116, wrd ws), (117, ia sgl), (118, ia nbl)])) rfl rfl rfl rfl rfl ((x_beg_t (H := ov H ((1, tcl n lim a kd pl 28 le nu tk (Int32.ofNat 0) fp) :: (2, bcl bs) :: [(13, dcl13 P Dn lw cl id gl bo), (14, lng pn), (15, ia ri), (16, ia lf), (17, ia wa), (18, ia fo), (19, lng dn), (20, ia ha), (21, ia pa), (22, ia bl), (115, .inr (7, [.int (Int32.ofNat o), .int (Int32.ofNat s), .ref 116, .ref 117, .ref 118, .ref 119])), (116, wrd ws), (117, ia sgl), (118, ia nbl)])) (by decide)).up (by omega)) rfl ?_
              refine bcF_ne rfl (by decide) ?_
              refine RT_step (pc2 := 30) rfl (fun _ _ => rfl) ?_
              refine ow_gf rfl rfl rfl hlen rfl ?_
              refine rt_bip rfl k8_20 ?_
              refine biF_ge rfl (n_nle (by omega) (by omega)) ?_
              refine RT_step (pc2 := 39) rfl (fun _ _ => rfl) ?_
              refine rt_bip rfl k8_8 ?_
              refine biT_le rfl (n_le (by omega) (by omega)) ?_
              refine RT_step (pc2 := 51) rfl (fun _ _ => rfl) ?_
              refine RT_step (pc2 := 52) rfl (fun _ _ => rfl) ?_
              refine ow_gf rfl rfl rfl hlen rfl ?_
              refine rt_ico rfl ki_1 ?_
              refine ba_iadd rfl ?_
              rw [n_add]
              refine ow_pf (l2 := ((1, tcl n lim a kd pl 28 le nu tk (Int32.ofNat 0) fp) :: (2, bcl bs) :: [(13, dcl13 P Dn lw cl id gl bo), (14, lng pn), (15, ia ri), (16, ia lf), (17, ia wa), (18, ia fo), (19, lng dn), (20, ia ha), (21, ia pa), (22, ia bl), (115, .inr (7, [.int (Int32.ofNat (o + 1)), .int (Int32.ofNat s), .ref 116, .ref 117, .ref 118, .ref 119])), (116, wrd ws), (117, ia sgl), (118, ia nbl)])) rfl rfl rfl rfl rfl hlen rfl rfl ?_
              refine RT_step (pc2 := 61) rfl (fun _ _ => rfl) ?_
              refine ow_gf rfl rfl rfl hlen rfl ?_
              refine RT_step (pc2 := 66) rfl (fun _ _ => rfl) ?_
              refine RT_step (pc2 := 67) rfl (fun _ _ => rfl) ?_
              refine ow_iv0 (l2 := ((1, tcl n lim a1 kd1 pl1 w1 le1 nu1 tk (Int32.ofNat 0) fp1) :: (2, bcl bs) :: [(13, dcl13 P Dn lw cl id gl bo), (14, lng pn), (15, ia ri), (16, ia lf), (17, ia wa), (18, ia fo), (19, lng dn), (20, ia ha), (21, ia pa), (22, ia bl), (115, .inr (7, [.int (Int32.ofNat (o + 1)), .int (Int32.ofNat s), .ref 116, .ref 117, .ref 118, .ref 119])), (116, wrd ws), (117, ia sgl), (118, ia nbl)])) rfl rfl rfl rfl hlen rfl rfl rfl ((x1 _ (ov_hl hlen) (ov_at rfl (ov_lt hlen (by decide))) (ov_at rfl (ov_lt hlen (by decide)))).up (by omega)) rfl ?_
              refine RT_step (pc2 := 72) rfl (fun _ _ => rfl) ?_
              refine bcT_eq rfl rfl ?_
              refine RT_step (pc2 := 105) rfl (fun _ _ => rfl) ?_
              refine RT_step (pc2 := 107) rfl (fun _ _ => rfl) ?_
              refine rt_ord rfl (by decide) rfl ?_
              refine rt_isw rfl (v := 18) (by decide +kernel) ?_
              refine RT_step (pc2 := 177) rfl (fun _ _ => rfl) ?_
              refine RT_step (pc2 := 178) rfl (fun _ _ => rfl) ?_
              refine RT_step (pc2 := 179) rfl (fun _ _ => rfl) ?_
              refine RT_step (pc2 := 181) rfl (fun _ _ => rfl) ?_
              refine ow_iv1 (l2 := ((1, tcl n lim a2 kd2 pl2 w2 le2 nu2 tk2 (Int32.ofNat 0) fp2) :: (2, bcl bs) :: [(13, dcl13 P Dn lw cl id gl bo), (14, lng pn), (15, ia ri), (16, ia lf), (17, ia wa), (18, ia fo), (19, lng dn), (20, ia ha), (21, ia pa), (22, ia bl), (115, .inr (7, [.int (Int32.ofNat (o + 1)), .int (Int32.ofNat s2), .ref 116, .ref 117, .ref 118, .ref 119])), (116, wrd ws2), (117, ia sl2), (118, ia nb2)])) rfl rfl rfl rfl hlen rfl rfl rfl ((h.1 H hlen).up (by omega)) rfl ?_
              exact ow_irt rfl rfl rfl
            · refine FR_st2 (l2 := ((180, mcl (Int32.ofNat 0) (Int32.ofNat 0) n lim a2 pl2 (km kd2) nm2 sg2 (Int32.ofNat 0) qm2 wd2 td2 (posn vs (nn + 1) (o + 1) wi nn)) :: (181, mtl ts) :: [(182, ia nw), (187, lng nz), (202, ia nl2)])) rfl rfl rfl ?_
              refine RT_step (pc2 := 1) rfl (fun _ _ => rfl) ?_
              refine rt_bip rfl k8_40 ?_
              refine ow_iv1 (l2 := ((180, mcl (Int32.ofNat 0) (Int32.ofNat 0) n lim a pl (km kd) nm sg (Int32.ofNat 0) qm wd td (posn vs nn o wi tp)) :: (181, mtl ts) :: [(182, ia nw), (187, lng nz), (202, ia nl)])) rfl rfl rfl rfl hlen rfl rfl rfl ((m_isSign (ov_hl hlen) (ov_at rfl (ov_lt hlen (by decide))) hk (c := 40) (s := sv) (by decide) sv1 sv3).up (by omega)) rfl ?_
              refine RT_step (pc2 := 7) rfl (fun _ _ => rfl) ?_
              rw [bq, g]
              refine rt_bip rfl k8_19 ?_
              refine RT_step (pc2 := 10) rfl (fun _ _ => rfl) ?_
              refine m_wl (z := b01 false) hlen hk 11 19 _ rfl rfl rfl rfl (fun L2 l0 l1 l2 => ?_)
              rw [wj_eq t 11 19 rfl, jw] at l2
              refine rt_ild rfl l1 ?_
              refine bcT_ne rfl rfl ?_
              refine rt_ild rfl l2 ?_
              refine rt_bip rfl k8_29 ?_
              refine biT_le rfl (n_le (by omega) (by omega)) ?_
              refine rt_ald rfl l0 ?_
              refine ow_gf rfl rfl rfl hlen rfl ?_
              refine rt_bip rfl k8_20 ?_
              refine biF_eq rfl (n_ne (by omega) (by omega) (by omega)) ?_
              refine rt_ald rfl l0 ?_
              refine ow_gf rfl rfl rfl hlen rfl ?_
              refine rt_bip rfl k8_8 ?_
              refine biF_ne rfl (n_ne (by omega) (by omega) (by omega)) ?_
              refine rt_ald rfl l0 ?_
              refine RT_step (pc2 := 72) rfl (fun _ _ => rfl) ?_
              refine ow_gf rfl rfl rfl hlen rfl ?_
              refine rt_ico rfl ki_1 ?_
              refine ba_iadd rfl ?_
              rw [n_add]
              refine ow_pf (l2 := ((180, mcl (Int32.ofNat 0) (Int32.ofNat 0) n lim a pl (km kd) nm sg (Int32.ofNat 0) qm wd td (posn vs nn (o + 1) wi tp)) :: (181, mtl ts) :: [(182, ia nw), (187, lng nz), (202, ia nl)])) rfl rfl rfl rfl rfl hlen rfl rfl ?_
              refine rt_ald rfl l0 ?_
              refine RT_step (pc2 := 82) rfl (fun _ _ => rfl) ?_
              refine ow_gf rfl rfl rfl hlen rfl ?_
              refine rt_ico rfl ki_1 ?_
              refine ba_iadd rfl ?_
              rw [n_add]
              refine ow_pf (l2 := ((180, mcl (Int32.ofNat 0) (Int32.ofNat 0) n lim a pl (km kd) nm sg (Int32.ofNat 0) qm wd td (posn vs nn (o + 1) (wi + 1) tp)) :: (181, mtl ts) :: [(182, ia nw), (187, lng nz), (202, ia nl)])) rfl rfl rfl rfl rfl hlen rfl rfl ?_
              refine rt_ald rfl l0 ?_
              refine ow_iv0 (l2 := ((180, mcl (Int32.ofNat 0) (Int32.ofNat 0) n lim a1 pl1 (km kd1) nm1 sg1 (Int32.ofNat 0) qm1 wd1 td (posn vs nn (o + 1) (wi + 1) tp)) :: (181, mtl ts) :: [(182, ia nw), (187, lng nz), (202, ia nl)])) rfl rfl rfl rfl hlen rfl rfl rfl ((m1 _ (ov_hl hlen) (ov_at rfl (ov_lt hlen (by decide))) (ov_at rfl (ov_lt hlen (by decide)))).up (by omega)) rfl ?_
              refine rt_ico rfl ki_1 ?_
              refine rt_ist rfl (by decide +kernel) ?_
              refine rt_ild rfl (gs_o rfl l1 rfl) ?_
              refine bcT_eq rfl rfl ?_
              refine rt_ild rfl (gs_o rfl l2 rfl) ?_
              refine rt_bip rfl k8_19 ?_
              refine biF_ne rfl (n_ne (by omega) (by omega) (by omega)) ?_
              refine rt_ild rfl (gs_o rfl l2 rfl) ?_
              refine rt_bip rfl k8_25 ?_
              refine biT_ge rfl (n_le (by omega) (by omega)) ?_
              refine rt_ild rfl (gs_o rfl l2 rfl) ?_
              refine rt_bip rfl k8_26 ?_
              refine biT_ge rfl (n_le (by omega) (by omega)) ?_
              refine rt_ald rfl (gs_o rfl l0 rfl) ?_
              refine rt_ild rfl (gs_o rfl l2 rfl) ?_
              refine ow_iv1 (l2 := ((180, mcl (Int32.ofNat 0) (Int32.ofNat 0) n lim a2 pl2 (km kd2) nm2 sg2 (Int32.ofNat 0) qm2 wd2 td2 (posn vs (nn + 1) (o + 1) (wi + 1) nn)) :: (181, mtl ts) :: [(182, ia nw), (187, lng nz), (202, ia nl2)])) rfl rfl rfl rfl hlen rfl rfl rfl ((h.2 H hlen).up (by omega)) rfl ?_
              refine rt_ist rfl (by decide +kernel) ?_
              refine rt_ald rfl (gs_o rfl (gs_o rfl l0 rfl) rfl) ?_
              refine RT_step (pc2 := 168) rfl (fun _ _ => rfl) ?_
              refine ow_gf rfl rfl rfl hlen rfl ?_
              refine rt_ico rfl ki_1 ?_
              refine ba_isub rfl ?_
              rw [n_sub (by omega), Nat.add_sub_cancel]
              refine ow_pf (l2 := ((180, mcl (Int32.ofNat 0) (Int32.ofNat 0) n lim a2 pl2 (km kd2) nm2 sg2 (Int32.ofNat 0) qm2 wd2 td2 (posn vs (nn + 1) (o + 1) wi nn)) :: (181, mtl ts) :: [(182, ia nw), (187, lng nz), (202, ia nl2)])) rfl rfl rfl rfl rfl hlen rfl rfl ?_
              refine rt_ild rfl gs_n ?_
              exact ow_irt rfl rfl rfl
      · have hk1 := w_k1 t (by omega)
        by_cases cf : o = 20 ∨ wi = 8
        · obtain ⟨T, M, f, hx, hm⟩ := s_ref (bs := bs) (ts := ts) (lim := lim) (po := (posn vs nn o wi tp)) (pl := pl) (tk := tk) (td := td) (fp := fp) (plM := qm) t (kk := 4) (by decide) (by decide) (Or.inl (by omega))
          refine Or.inl ⟨T, M, o, s, nn, tp, ws, sgl, nbl, nl, f, sx, ?_⟩
          by_cases co : o = 20
          · refine ⟨fun H hlen => ?_, fun H hlen => ?_⟩
            · refine FR_st2 (l2 := ((1, T) :: (2, bcl bs) :: [(13, dcl13 P Dn lw cl id gl bo), (14, lng pn), (15, ia ri), (16, ia lf), (17, ia wa), (18, ia fo), (19, lng dn), (20, ia ha), (21, ia pa), (22, ia bl), (115, .inr (7, [.int (Int32.ofNat o), .int (Int32.ofNat s), .ref 116, .ref 117, .ref 118, .ref 119])), (116, wrd ws), (117, ia sgl), (118, ia nbl)])) rfl rfl rfl ?_
              refine RT_step (pc2 := 1) rfl (fun _ _ => rfl) ?_
              refine rt_bip rfl k8_40 ?_
              refine ow_iv1 (l2 := ((1, tcl n lim a kd pl 29 le nu tk (Int32.ofNat 0) fp) :: (2, bcl bs) :: [(13, dcl13 P Dn lw cl id gl bo), (14, lng pn), (15, ia ri), (16, ia lf), (17, ia wa), (18, ia fo), (19, lng dn), (20, ia ha), (21, ia pa), (22, ia bl), (115, .inr (7, [.int (Int32.ofNat o), .int (Int32.ofNat s), .ref 116, .ref 117, .ref 118, .ref 119])), (116, wrd ws), (117, ia sgl), (118, ia nbl)])) rfl rfl rfl rfl hlen rfl rfl rfl ((x_isMarkHere (ov_hl hlen) (ov_at rfl (ov_lt hlen (by decide))) hk5 (c := 40) (s := sv) (by decide) sv1 sv2).up (by omega)) rfl ?_
              rw [g]
              refine RT_step (pc2 := 8) rfl (fun _ _ => rfl) ?_
              refine RT_step (pc2 := 10) rfl (fun _ _ => rfl) ?_
              refine bcT_ne rfl rfl ?_
              refine RT_step (pc2 := 14) rfl (fun _ _ => rfl) ?_
              refine ow_gf rfl rfl rfl hlen rfl ?_
              refine ow_is1 (l2 := ((1, tcl n lim a kd pl 29 le nu tk (Int32.ofNat 0) fp) :: (2, bcl bs) :: [(13, dcl13 P Dn lw cl id gl bo), (14, lng pn), (15, ia ri), (16, ia lf), (17, ia wa), (18, ia fo), (19, lng dn), (20, ia ha), (21, ia pa), (22, ia bl), (115, .inr (7, [.int (Int32.ofNat o), .int (Int32.ofNat s), .ref 116, .ref 117, .ref 118, .ref 119])), (116, wrd ws), (117, ia sgl), (118, ia nbl)])) rfl rfl rfl rfl rfl ((x_beg_t (H := ov H ((1, tcl n lim a kd pl 29 le nu tk (Int32.ofNat 0) fp) :: (2, bcl bs) :: [(13, dcl13 P Dn lw cl id gl bo), (14, lng pn), (15, ia ri), (16, ia lf), (17, ia wa), (18, ia fo), (19, lng dn), (20, ia ha), (21, ia pa), (22, ia bl), (115, .inr (7, [.int (Int32.ofNat o), .int (Int32.ofNat s), .ref 116, .ref 117, .ref 118, .ref 119])), (116, wrd ws), (117, ia sgl), (118, ia nbl)])) (by decide)).up (by omega)) rfl ?_
              refine bcF_ne rfl (by decide) ?_
              refine RT_step (pc2 := 30) rfl (fun _ _ => rfl) ?_
              refine ow_gf rfl rfl rfl hlen rfl ?_
              refine rt_bip rfl k8_20 ?_
              refine biT_ge rfl (n_le (by omega) (by omega)) ?_
              refine RT_step (pc2 := 45) rfl (fun _ _ => rfl) ?_
              refine rt_ico rfl ki_4 ?_
              refine ow_iv1 (l2 := ((1, T) :: (2, bcl bs) :: [(13, dcl13 P Dn lw cl id gl bo), (14, lng pn), (15, ia ri), (16, ia lf), (17, ia wa), (18, ia fo), (19, lng dn), (20, ia ha), (21, ia pa), (22, ia bl), (115, .inr (7, [.int (Int32.ofNat o), .int (Int32.ofNat s), .ref 116, .ref 117, .ref 118, .ref 119])), (116, wrd ws), (117, ia sgl), (118, ia nbl)])) rfl rfl rfl rfl hlen rfl rfl rfl ((hx _ (ov_hl hlen) (ov_at rfl (ov_lt hlen (by decide))) (ov_at rfl (ov_lt hlen (by decide)))).up (by omega)) rfl ?_
              exact ow_irt rfl rfl rfl
            · refine FR_st2 (l2 := ((180, M) :: (181, mtl ts) :: [(182, ia nw), (187, lng nz), (202, ia nl)])) rfl rfl rfl ?_
              refine RT_step (pc2 := 1) rfl (fun _ _ => rfl) ?_
              refine rt_bip rfl k8_40 ?_
              refine ow_iv1 (l2 := ((180, mcl (Int32.ofNat 0) (Int32.ofNat 0) n lim a pl (km kd) nm sg (Int32.ofNat 0) qm wd td (posn vs nn o wi tp)) :: (181, mtl ts) :: [(182, ia nw), (187, lng nz), (202, ia nl)])) rfl rfl rfl rfl hlen rfl rfl rfl ((m_isSign (ov_hl hlen) (ov_at rfl (ov_lt hlen (by decide))) hk (c := 40) (s := sv) (by decide) sv1 sv3).up (by omega)) rfl ?_
              refine RT_step (pc2 := 7) rfl (fun _ _ => rfl) ?_
              rw [bq, g]
              refine rt_bip rfl k8_19 ?_
              refine RT_step (pc2 := 10) rfl (fun _ _ => rfl) ?_
              refine m_wl (z := b01 false) hlen hk 11 19 _ rfl rfl rfl rfl (fun L2 l0 l1 l2 => ?_)
              rw [wj_eq t 11 19 rfl, jw] at l2
              refine rt_ild rfl l1 ?_
              refine bcT_ne rfl rfl ?_
              refine rt_ild rfl l2 ?_
              refine rt_bip rfl k8_29 ?_
              refine biT_le rfl (n_le (by omega) (by omega)) ?_
              refine rt_ald rfl l0 ?_
              refine ow_gf rfl rfl rfl hlen rfl ?_
              refine rt_bip rfl k8_20 ?_
              refine biT_eq rfl (n_eq co) ?_
              refine rt_ald rfl l0 ?_
              refine rt_ico rfl ki_4 ?_
              refine ow_iv1 (l2 := ((180, M) :: (181, mtl ts) :: [(182, ia nw), (187, lng nz), (202, ia nl)])) rfl rfl rfl rfl hlen rfl rfl rfl ((hm _ (ov_hl hlen) (ov_at rfl (ov_lt hlen (by decide))) (ov_at rfl (ov_lt hlen (by decide)))).up (by omega)) rfl ?_
              exact ow_irt rfl rfl rfl
          · refine ⟨fun H hlen => ?_, fun H hlen => ?_⟩
            · refine FR_st2 (l2 := ((1, T) :: (2, bcl bs) :: [(13, dcl13 P Dn lw cl id gl bo), (14, lng pn), (15, ia ri), (16, ia lf), (17, ia wa), (18, ia fo), (19, lng dn), (20, ia ha), (21, ia pa), (22, ia bl), (115, .inr (7, [.int (Int32.ofNat o), .int (Int32.ofNat s), .ref 116, .ref 117, .ref 118, .ref 119])), (116, wrd ws), (117, ia sgl), (118, ia nbl)])) rfl rfl rfl ?_
              refine RT_step (pc2 := 1) rfl (fun _ _ => rfl) ?_
              refine rt_bip rfl k8_40 ?_
              refine ow_iv1 (l2 := ((1, tcl n lim a kd pl 29 le nu tk (Int32.ofNat 0) fp) :: (2, bcl bs) :: [(13, dcl13 P Dn lw cl id gl bo), (14, lng pn), (15, ia ri), (16, ia lf), (17, ia wa), (18, ia fo), (19, lng dn), (20, ia ha), (21, ia pa), (22, ia bl), (115, .inr (7, [.int (Int32.ofNat o), .int (Int32.ofNat s), .ref 116, .ref 117, .ref 118, .ref 119])), (116, wrd ws), (117, ia sgl), (118, ia nbl)])) rfl rfl rfl rfl hlen rfl rfl rfl ((x_isMarkHere (ov_hl hlen) (ov_at rfl (ov_lt hlen (by decide))) hk5 (c := 40) (s := sv) (by decide) sv1 sv2).up (by omega)) rfl ?_
              rw [g]
              refine RT_step (pc2 := 8) rfl (fun _ _ => rfl) ?_
              refine RT_step (pc2 := 10) rfl (fun _ _ => rfl) ?_
              refine bcT_ne rfl rfl ?_
              refine RT_step (pc2 := 14) rfl (fun _ _ => rfl) ?_
              refine ow_gf rfl rfl rfl hlen rfl ?_
              refine ow_is1 (l2 := ((1, tcl n lim a kd pl 29 le nu tk (Int32.ofNat 0) fp) :: (2, bcl bs) :: [(13, dcl13 P Dn lw cl id gl bo), (14, lng pn), (15, ia ri), (16, ia lf), (17, ia wa), (18, ia fo), (19, lng dn), (20, ia ha), (21, ia pa), (22, ia bl), (115, .inr (7, [.int (Int32.ofNat o), .int (Int32.ofNat s), .ref 116, .ref 117, .ref 118, .ref 119])), (116, wrd ws), (117, ia sgl), (118, ia nbl)])) rfl rfl rfl rfl rfl ((x_beg_t (H := ov H ((1, tcl n lim a kd pl 29 le nu tk (Int32.ofNat 0) fp) :: (2, bcl bs) :: [(13, dcl13 P Dn lw cl id gl bo), (14, lng pn), (15, ia ri), (16, ia lf), (17, ia wa), (18, ia fo), (19, lng dn), (20, ia ha), (21, ia pa), (22, ia bl), (115, .inr (7, [.int (Int32.ofNat o), .int (Int32.ofNat s), .ref 116, .ref 117, .ref 118, .ref 119])), (116, wrd ws), (117, ia sgl), (118, ia nbl)])) (by decide)).up (by omega)) rfl ?_
              refine bcF_ne rfl (by decide) ?_
              refine RT_step (pc2 := 30) rfl (fun _ _ => rfl) ?_
              refine ow_gf rfl rfl rfl hlen rfl ?_
              refine rt_bip rfl k8_20 ?_
              refine biF_ge rfl (n_nle (by omega) (by omega)) ?_
              refine RT_step (pc2 := 39) rfl (fun _ _ => rfl) ?_
              refine rt_bip rfl k8_8 ?_
              refine biF_le rfl (n_nle (by omega) (by omega)) ?_
              refine RT_step (pc2 := 45) rfl (fun _ _ => rfl) ?_
              refine rt_ico rfl ki_4 ?_
              refine ow_iv1 (l2 := ((1, T) :: (2, bcl bs) :: [(13, dcl13 P Dn lw cl id gl bo), (14, lng pn), (15, ia ri), (16, ia lf), (17, ia wa), (18, ia fo), (19, lng dn), (20, ia ha), (21, ia pa), (22, ia bl), (115, .inr (7, [.int (Int32.ofNat o), .int (Int32.ofNat s), .ref 116, .ref 117, .ref 118, .ref 119])), (116, wrd ws), (117, ia sgl), (118, ia nbl)])) rfl rfl rfl rfl hlen rfl rfl rfl ((hx _ (ov_hl hlen) (ov_at rfl (ov_lt hlen (by decide))) (ov_at rfl (ov_lt hlen (by decide)))).up (by omega)) rfl ?_
              exact ow_irt rfl rfl rfl
            · refine FR_st2 (l2 := ((180, M) :: (181, mtl ts) :: [(182, ia nw), (187, lng nz), (202, ia nl)])) rfl rfl rfl ?_
              refine RT_step (pc2 := 1) rfl (fun _ _ => rfl) ?_
              refine rt_bip rfl k8_40 ?_
              refine ow_iv1 (l2 := ((180, mcl (Int32.ofNat 0) (Int32.ofNat 0) n lim a pl (km kd) nm sg (Int32.ofNat 0) qm wd td (posn vs nn o wi tp)) :: (181, mtl ts) :: [(182, ia nw), (187, lng nz), (202, ia nl)])) rfl rfl rfl rfl hlen rfl rfl rfl ((m_isSign (ov_hl hlen) (ov_at rfl (ov_lt hlen (by decide))) hk (c := 40) (s := sv) (by decide) sv1 sv3).up (by omega)) rfl ?_
              refine RT_step (pc2 := 7) rfl (fun _ _ => rfl) ?_
              rw [bq, g]
              refine rt_bip rfl k8_19 ?_
              refine RT_step (pc2 := 10) rfl (fun _ _ => rfl) ?_
              refine m_wl (z := b01 false) hlen hk 11 19 _ rfl rfl rfl rfl (fun L2 l0 l1 l2 => ?_)
              rw [wj_eq t 11 19 rfl, jw] at l2
              refine rt_ild rfl l1 ?_
              refine bcT_ne rfl rfl ?_
              refine rt_ild rfl l2 ?_
              refine rt_bip rfl k8_29 ?_
              refine biT_le rfl (n_le (by omega) (by omega)) ?_
              refine rt_ald rfl l0 ?_
              refine ow_gf rfl rfl rfl hlen rfl ?_
              refine rt_bip rfl k8_20 ?_
              refine biF_eq rfl (n_ne co (by omega) (by omega)) ?_
              refine rt_ald rfl l0 ?_
              refine ow_gf rfl rfl rfl hlen rfl ?_
              refine rt_bip rfl k8_8 ?_
              refine biT_ne rfl (n_eq (by omega)) ?_
              refine rt_ald rfl l0 ?_
              refine rt_ico rfl ki_4 ?_
              refine ow_iv1 (l2 := ((180, M) :: (181, mtl ts) :: [(182, ia nw), (187, lng nz), (202, ia nl)])) rfl rfl rfl rfl hlen rfl rfl rfl ((hm _ (ov_hl hlen) (ov_at rfl (ov_lt hlen (by decide))) (ov_at rfl (ov_lt hlen (by decide)))).up (by omega)) rfl ?_
              exact ow_irt rfl rfl rfl
        · obtain ⟨T1, M1, c1, x1, m1⟩ := s_adv hB hM hb hn hl (po := (posn vs nn (o + 1) (wi + 1) tp)) (pl := pl) (tk := tk) (td := td) (fp := fp) (plM := qm) t (by omega) (by omega)
          obtain ⟨a1, kd1, pl1, w1, le1, nu1, fp1, nm1, sg1, qm1, wd1, rfl, rfl, t1⟩ := c1
          rcases sm13_115 hB hM hb hn hl (pl := pl1) (tk := tk) (td := td) (fp := fp1) (qm := qm1) (o := o + 1) (nn := nn) (wi := wi + 1) (tp := tp) t1 sx ln (by omega) (by omega) (by omega) (w0 := 29) (j0 := j) (by decide) (by omega) with ⟨T, M, f, h⟩ | ⟨tk2, td2, T, M, s2, ws2, sl2, nb2, nl2, c2, sx2, ln2, h⟩
          · have f0 := f
            obtain ⟨a9, kd9, pl9, w9, le9, nu9, tk9, kk9, am9, fm9, kM9, nm9, sg9, fa9, qm9, wd9, td9, rfl, rfl, f9⟩ := f
            refine Or.inl ⟨tcl n lim a9 kd9 pl9 w9 le9 nu9 tk9 (Int32.ofNat kk9) (Int32.ofNat pl9), mcl (Int32.ofNat 0) (Int32.ofNat 0) n lim am9 fm9 kM9 nm9 sg9 fa9 qm9 wd9 td9 (posn vs nn (o + 1) wi tp), (o + 1), s, nn, tp, ws, sgl, nbl, nl, ⟨a9, kd9, pl9, w9, le9, nu9, tk9, kk9, am9, fm9, kM9, nm9, sg9, fa9, qm9, wd9, td9, rfl, rfl, f9⟩, sx, fun H hlen => ?_, fun H hlen => ?_⟩
            · refine FR_st2 (l2 := ((1, tcl n lim a9 kd9 pl9 w9 le9 nu9 tk9 (Int32.ofNat kk9) (Int32.ofNat pl9)) :: (2, bcl bs) :: [(13, dcl13 P Dn lw cl id gl bo), (14, lng pn), (15, ia ri), (16, ia lf), (17, ia wa), (18, ia fo), (19, lng dn), (20, ia ha), (21, ia pa), (22, ia bl), (115, .inr (7, [.int (Int32.ofNat (o + 1)), .int (Int32.ofNat s), .ref 116, .ref 117, .ref 118, .ref 119])), (116, wrd ws), (117, ia sgl), (118, ia nbl)])) rfl rfl rfl ?_
              refine RT_step (pc2 := 1) rfl (fun _ _ => rfl) ?_
              refine rt_bip rfl k8_40 ?_
              refine ow_iv1 (l2 := ((1, tcl n lim a kd pl 29 le nu tk (Int32.ofNat 0) fp) :: (2, bcl bs) :: [(13, dcl13 P Dn lw cl id gl bo), (14, lng pn), (15, ia ri), (16, ia lf), (17, ia wa), (18, ia fo), (19, lng dn), (20, ia ha), (21, ia pa), (22, ia bl), (115, .inr (7, [.int (Int32.ofNat o), .int (Int32.ofNat s), .ref 116, .ref 117, .ref 118, .ref 119])), (116, wrd ws), (117, ia sgl), (118, ia nbl)])) rfl rfl rfl rfl hlen rfl rfl rfl ((x_isMarkHere (ov_hl hlen) (ov_at rfl (ov_lt hlen (by decide))) hk5 (c := 40) (s := sv) (by decide) sv1 sv2).up (by omega)) rfl ?_
              rw [g]
              refine RT_step (pc2 := 8) rfl (fun _ _ => rfl) ?_
              refine RT_step (pc2 := 10) rfl (fun _ _ => rfl) ?_
              refine bcT_ne rfl rfl ?_
              refine RT_step (pc2 := 14) rfl (fun _ _ => rfl) ?_
              refine ow_gf rfl rfl rfl hlen rfl ?_
              refine ow_is1 (l2 := ((1, tcl n lim a kd pl 29 le nu tk (Int32.ofNat 0) fp) :: (2, bcl bs) :: [(13, dcl13 P Dn lw cl id gl bo), (14, lng pn), (15, ia ri), (16, ia lf), (17, ia wa), (18, ia fo), (19, lng dn), (20, ia ha), (21, ia pa), (22, ia bl), (115, .inr (7, [.int (Int32.ofNat o), .int (Int32.ofNat s), .ref 116, .ref 117, .ref 118, .ref 119])), (116, wrd ws), (117, ia sgl), (118, ia nbl)])) rfl rfl rfl rfl rfl ((x_beg_t (H := ov H ((1, tcl n lim a kd pl 29 le nu tk (Int32.ofNat 0) fp) :: (2, bcl bs) :: [(13, dcl13 P Dn lw cl id gl bo), (14, lng pn), (15, ia ri), (16, ia lf), (17, ia wa), (18, ia fo), (19, lng dn), (20, ia ha), (21, ia pa), (22, ia bl), (115, .inr (7, [.int (Int32.ofNat o), .int (Int32.ofNat s), .ref 116, .ref 117, .ref 118, .ref 119])), (116, wrd ws), (117, ia sgl), (118, ia nbl)])) (by decide)).up (by omega)) rfl ?_
              refine bcF_ne rfl (by decide) ?_
              refine RT_step (pc2 := 30) rfl (fun _ _ => rfl) ?_
              refine ow_gf rfl rfl rfl hlen rfl ?_
              refine rt_bip rfl k8_20 ?_
              refine biF_ge rfl (n_nle (by omega) (by omega)) ?_
              refine RT_step (pc2 := 39) rfl (fun _ _ => rfl) ?_
              refine rt_bip rfl k8_8 ?_
              refine biT_le rfl (n_le (by omega) (by omega)) ?_
              refine RT_step (pc2 := 51) rfl (fun _ _ => rfl) ?_
              refine RT_step (pc2 := 52) rfl (fun _ _ => rfl) ?_
              refine ow_gf rfl rfl rfl hlen rfl ?_
              refine rt_ico rfl ki_1 ?_
              refine ba_iadd rfl ?_
              rw [n_add]
              refine ow_pf (l2 := ((1, tcl n lim a kd pl 29 le nu tk (Int32.ofNat 0) fp) :: (2, bcl bs) :: [(13, dcl13 P Dn lw cl id gl bo), (14, lng pn), (15, ia ri), (16, ia lf), (17, ia wa), (18, ia fo), (19, lng dn), (20, ia ha), (21, ia pa), (22, ia bl), (115, .inr (7, [.int (Int32.ofNat (o + 1)), .int (Int32.ofNat s), .ref 116, .ref 117, .ref 118, .ref 119])), (116, wrd ws), (117, ia sgl), (118, ia nbl)])) rfl rfl rfl rfl rfl hlen rfl rfl ?_
              refine RT_step (pc2 := 61) rfl (fun _ _ => rfl) ?_
              refine ow_gf rfl rfl rfl hlen rfl ?_
              refine RT_step (pc2 := 66) rfl (fun _ _ => rfl) ?_
              refine RT_step (pc2 := 67) rfl (fun _ _ => rfl) ?_
              refine ow_iv0 (l2 := ((1, tcl n lim a1 kd1 pl1 w1 le1 nu1 tk (Int32.ofNat 0) fp1) :: (2, bcl bs) :: [(13, dcl13 P Dn lw cl id gl bo), (14, lng pn), (15, ia ri), (16, ia lf), (17, ia wa), (18, ia fo), (19, lng dn), (20, ia ha), (21, ia pa), (22, ia bl), (115, .inr (7, [.int (Int32.ofNat (o + 1)), .int (Int32.ofNat s), .ref 116, .ref 117, .ref 118, .ref 119])), (116, wrd ws), (117, ia sgl), (118, ia nbl)])) rfl rfl rfl rfl hlen rfl rfl rfl ((x1 _ (ov_hl hlen) (ov_at rfl (ov_lt hlen (by decide))) (ov_at rfl (ov_lt hlen (by decide)))).up (by omega)) rfl ?_
              refine RT_step (pc2 := 72) rfl (fun _ _ => rfl) ?_
              refine bcT_eq rfl rfl ?_
              refine RT_step (pc2 := 105) rfl (fun _ _ => rfl) ?_
              refine RT_step (pc2 := 107) rfl (fun _ _ => rfl) ?_
              refine rt_ord rfl (by decide) rfl ?_
              refine rt_isw rfl (v := 19) (by decide +kernel) ?_
              refine RT_step (pc2 := 177) rfl (fun _ _ => rfl) ?_
              refine RT_step (pc2 := 178) rfl (fun _ _ => rfl) ?_
              refine RT_step (pc2 := 179) rfl (fun _ _ => rfl) ?_
              refine RT_step (pc2 := 181) rfl (fun _ _ => rfl) ?_
              refine ow_iv1 (l2 := ((1, tcl n lim a9 kd9 pl9 w9 le9 nu9 tk9 (Int32.ofNat kk9) (Int32.ofNat pl9)) :: (2, bcl bs) :: [(13, dcl13 P Dn lw cl id gl bo), (14, lng pn), (15, ia ri), (16, ia lf), (17, ia wa), (18, ia fo), (19, lng dn), (20, ia ha), (21, ia pa), (22, ia bl), (115, .inr (7, [.int (Int32.ofNat (o + 1)), .int (Int32.ofNat s), .ref 116, .ref 117, .ref 118, .ref 119])), (116, wrd ws), (117, ia sgl), (118, ia nbl)])) rfl rfl rfl rfl hlen rfl rfl rfl ((h.1 H hlen).up (by omega)) rfl ?_
              exact ow_irt rfl rfl rfl
            · refine FR_st2 (l2 := ((180, mcl (Int32.ofNat 0) (Int32.ofNat 0) n lim am9 fm9 kM9 nm9 sg9 fa9 qm9 wd9 td9 (posn vs nn (o + 1) wi tp)) :: (181, mtl ts) :: [(182, ia nw), (187, lng nz), (202, ia nl)])) rfl rfl rfl ?_
              refine RT_step (pc2 := 1) rfl (fun _ _ => rfl) ?_
              refine rt_bip rfl k8_40 ?_
              refine ow_iv1 (l2 := ((180, mcl (Int32.ofNat 0) (Int32.ofNat 0) n lim a pl (km kd) nm sg (Int32.ofNat 0) qm wd td (posn vs nn o wi tp)) :: (181, mtl ts) :: [(182, ia nw), (187, lng nz), (202, ia nl)])) rfl rfl rfl rfl hlen rfl rfl rfl ((m_isSign (ov_hl hlen) (ov_at rfl (ov_lt hlen (by decide))) hk (c := 40) (s := sv) (by decide) sv1 sv3).up (by omega)) rfl ?_
              refine RT_step (pc2 := 7) rfl (fun _ _ => rfl) ?_
              rw [bq, g]
              refine rt_bip rfl k8_19 ?_
              refine RT_step (pc2 := 10) rfl (fun _ _ => rfl) ?_
              refine m_wl (z := b01 false) hlen hk 11 19 _ rfl rfl rfl rfl (fun L2 l0 l1 l2 => ?_)
              rw [wj_eq t 11 19 rfl, jw] at l2
              refine rt_ild rfl l1 ?_
              refine bcT_ne rfl rfl ?_
              refine rt_ild rfl l2 ?_
              refine rt_bip rfl k8_29 ?_
              refine biT_le rfl (n_le (by omega) (by omega)) ?_
              refine rt_ald rfl l0 ?_
              refine ow_gf rfl rfl rfl hlen rfl ?_
              refine rt_bip rfl k8_20 ?_
              refine biF_eq rfl (n_ne (by omega) (by omega) (by omega)) ?_
              refine rt_ald rfl l0 ?_
              refine ow_gf rfl rfl rfl hlen rfl ?_
              refine rt_bip rfl k8_8 ?_
              refine biF_ne rfl (n_ne (by omega) (by omega) (by omega)) ?_
              refine rt_ald rfl l0 ?_
              refine RT_step (pc2 := 72) rfl (fun _ _ => rfl) ?_
              refine ow_gf rfl rfl rfl hlen rfl ?_
              refine rt_ico rfl ki_1 ?_
              refine ba_iadd rfl ?_
              rw [n_add]
              refine ow_pf (l2 := ((180, mcl (Int32.ofNat 0) (Int32.ofNat 0) n lim a pl (km kd) nm sg (Int32.ofNat 0) qm wd td (posn vs nn (o + 1) wi tp)) :: (181, mtl ts) :: [(182, ia nw), (187, lng nz), (202, ia nl)])) rfl rfl rfl rfl rfl hlen rfl rfl ?_
              refine rt_ald rfl l0 ?_
              refine RT_step (pc2 := 82) rfl (fun _ _ => rfl) ?_
              refine ow_gf rfl rfl rfl hlen rfl ?_
              refine rt_ico rfl ki_1 ?_
              refine ba_iadd rfl ?_
              rw [n_add]
              refine ow_pf (l2 := ((180, mcl (Int32.ofNat 0) (Int32.ofNat 0) n lim a pl (km kd) nm sg (Int32.ofNat 0) qm wd td (posn vs nn (o + 1) (wi + 1) tp)) :: (181, mtl ts) :: [(182, ia nw), (187, lng nz), (202, ia nl)])) rfl rfl rfl rfl rfl hlen rfl rfl ?_
              refine rt_ald rfl l0 ?_
              refine ow_iv0 (l2 := ((180, mcl (Int32.ofNat 0) (Int32.ofNat 0) n lim a1 pl1 (km kd1) nm1 sg1 (Int32.ofNat 0) qm1 wd1 td (posn vs nn (o + 1) (wi + 1) tp)) :: (181, mtl ts) :: [(182, ia nw), (187, lng nz), (202, ia nl)])) rfl rfl rfl rfl hlen rfl rfl rfl ((m1 _ (ov_hl hlen) (ov_at rfl (ov_lt hlen (by decide))) (ov_at rfl (ov_lt hlen (by decide)))).up (by omega)) rfl ?_
              refine rt_ico rfl ki_1 ?_
              refine rt_ist rfl (by decide +kernel) ?_
              refine rt_ild rfl (gs_o rfl l1 rfl) ?_
              refine bcT_eq rfl rfl ?_
              refine rt_ild rfl (gs_o rfl l2 rfl) ?_
              refine rt_bip rfl k8_19 ?_
              refine biF_ne rfl (n_ne (by omega) (by omega) (by omega)) ?_
              refine rt_ild rfl (gs_o rfl l2 rfl) ?_
              refine rt_bip rfl k8_25 ?_
              refine biT_ge rfl (n_le (by omega) (by omega)) ?_
              refine rt_ild rfl (gs_o rfl l2 rfl) ?_
              refine rt_bip rfl k8_26 ?_
              refine biT_ge rfl (n_le (by omega) (by omega)) ?_
              refine rt_ald rfl (gs_o rfl l0 rfl) ?_
              refine rt_ild rfl (gs_o rfl l2 rfl) ?_
              refine ow_iv1 (l2 := ((180, mcl (Int32.ofNat 0) (Int32.ofNat 0) n lim am9 fm9 kM9 nm9 sg9 fa9 qm9 wd9 td9 (posn vs nn (o + 1) (wi + 1) tp)) :: (181, mtl ts) :: [(182, ia nw), (187, lng nz), (202, ia nl)])) rfl rfl rfl rfl hlen rfl rfl rfl ((h.2 H hlen).up (by omega)) rfl ?_
              refine rt_ist rfl (by decide +kernel) ?_
              refine rt_ald rfl (gs_o rfl (gs_o rfl l0 rfl) rfl) ?_
              refine RT_step (pc2 := 168) rfl (fun _ _ => rfl) ?_
              refine ow_gf rfl rfl rfl hlen rfl ?_
              refine rt_ico rfl ki_1 ?_
              refine ba_isub rfl ?_
              rw [n_sub (by omega), Nat.add_sub_cancel]
              refine ow_pf (l2 := ((180, mcl (Int32.ofNat 0) (Int32.ofNat 0) n lim am9 fm9 kM9 nm9 sg9 fa9 qm9 wd9 td9 (posn vs nn (o + 1) wi tp)) :: (181, mtl ts) :: [(182, ia nw), (187, lng nz), (202, ia nl)])) rfl rfl rfl rfl rfl hlen rfl rfl ?_
              refine rt_ild rfl gs_n ?_
              exact ow_irt rfl rfl rfl
          · obtain ⟨a2, kd2, pl2, w2, le2, nu2, fp2, nm2, sg2, qm2, wd2, rfl, rfl, t2⟩ := c2
            refine Or.inr ⟨(k + 1 + 2), tk2, td2, tcl n lim a2 kd2 pl2 w2 le2 nu2 tk2 (Int32.ofNat 0) fp2, mcl (Int32.ofNat 0) (Int32.ofNat 0) n lim a2 pl2 (km kd2) nm2 sg2 (Int32.ofNat 0) qm2 wd2 td2 (posn vs (nn + 1) (o + 1) wi nn), (o + 1), s2, (nn + 1), nn, ws2, sl2, nb2, nl2, (tf_td t2), by omega, by omega, by omega, by omega, ?_, ?_, fun H hlen => ?_, fun H hlen => ?_⟩
            · exact sx2
            · exact ln2
            · refine FR_st2 (l2 := ((1, tcl n lim a2 kd2 pl2 w2 le2 nu2 tk2 (Int32.ofNat 0) fp2) :: (2, bcl bs) :: [(13, dcl13 P Dn lw cl id gl bo), (14, lng pn), (15, ia ri), (16, ia lf), (17, ia wa), (18, ia fo), (19, lng dn), (20, ia ha), (21, ia pa), (22, ia bl), (115, .inr (7, [.int (Int32.ofNat (o + 1)), .int (Int32.ofNat s2), .ref 116, .ref 117, .ref 118, .ref 119])), (116, wrd ws2), (117, ia sl2), (118, ia nb2)])) rfl rfl rfl ?_
              refine RT_step (pc2 := 1) rfl (fun _ _ => rfl) ?_
              refine rt_bip rfl k8_40 ?_
              refine ow_iv1 (l2 := ((1, tcl n lim a kd pl 29 le nu tk (Int32.ofNat 0) fp) :: (2, bcl bs) :: [(13, dcl13 P Dn lw cl id gl bo), (14, lng pn), (15, ia ri), (16, ia lf), (17, ia wa), (18, ia fo), (19, lng dn), (20, ia ha), (21, ia pa), (22, ia bl), (115, .inr (7, [.int (Int32.ofNat o), .int (Int32.ofNat s), .ref 116, .ref 117, .ref 118, .ref 119])), (116, wrd ws), (117, ia sgl), (118, ia nbl)])) rfl rfl rfl rfl hlen rfl rfl rfl ((x_isMarkHere (ov_hl hlen) (ov_at rfl (ov_lt hlen (by decide))) hk5 (c := 40) (s := sv) (by decide) sv1 sv2).up (by omega)) rfl ?_
              rw [g]
              refine RT_step (pc2 := 8) rfl (fun _ _ => rfl) ?_
              refine RT_step (pc2 := 10) rfl (fun _ _ => rfl) ?_
              refine bcT_ne rfl rfl ?_
              refine RT_step (pc2 := 14) rfl (fun _ _ => rfl) ?_
              refine ow_gf rfl rfl rfl hlen rfl ?_
              refine ow_is1 (l2 := ((1, tcl n lim a kd pl 29 le nu tk (Int32.ofNat 0) fp) :: (2, bcl bs) :: [(13, dcl13 P Dn lw cl id gl bo), (14, lng pn), (15, ia ri), (16, ia lf), (17, ia wa), (18, ia fo), (19, lng dn), (20, ia ha), (21, ia pa), (22, ia bl), (115, .inr (7, [.int (Int32.ofNat o), .int (Int32.ofNat s), .ref 116, .ref 117, .ref 118, .ref 119])), (116, wrd ws), (117, ia sgl), (118, ia nbl)])) rfl rfl rfl rfl rfl ((x_beg_t (H := ov H ((1, tcl n lim a kd pl 29 le nu tk (Int32.ofNat 0) fp) :: (2, bcl bs) :: [(13, dcl13 P Dn lw cl id gl bo), (14, lng pn), (15, ia ri), (16, ia lf), (17, ia wa), (18, ia fo), (19, lng dn), (20, ia ha), (21, ia pa), (22, ia bl), (115, .inr (7, [.int (Int32.ofNat o), .int (Int32.ofNat s), .ref 116, .ref 117, .ref 118, .ref 119])), (116, wrd ws), (117, ia sgl), (118, ia nbl)])) (by decide)).up (by omega)) rfl ?_
              refine bcF_ne rfl (by decide) ?_
              refine RT_step (pc2 := 30) rfl (fun _ _ => rfl) ?_
              refine ow_gf rfl rfl rfl hlen rfl ?_
              refine rt_bip rfl k8_20 ?_
              refine biF_ge rfl (n_nle (by omega) (by omega)) ?_
              refine RT_step (pc2 := 39) rfl (fun _ _ => rfl) ?_
              refine rt_bip rfl k8_8 ?_
              refine biT_le rfl (n_le (by omega) (by omega)) ?_
              refine RT_step (pc2 := 51) rfl (fun _ _ => rfl) ?_
              refine RT_step (pc2 := 52) rfl (fun _ _ => rfl) ?_
              refine ow_gf rfl rfl rfl hlen rfl ?_
              refine rt_ico rfl ki_1 ?_
              refine ba_iadd rfl ?_
              rw [n_add]
              refine ow_pf (l2 := ((1, tcl n lim a kd pl 29 le nu tk (Int32.ofNat 0) fp) :: (2, bcl bs) :: [(13, dcl13 P Dn lw cl id gl bo), (14, lng pn), (15, ia ri), (16, ia lf), (17, ia wa), (18, ia fo), (19, lng dn), (20, ia ha), (21, ia pa), (22, ia bl), (115, .inr (7, [.int (Int32.ofNat (o + 1)), .int (Int32.ofNat s), .ref 116, .ref 117, .ref 118, .ref 119])), (116, wrd ws), (117, ia sgl), (118, ia nbl)])) rfl rfl rfl rfl rfl hlen rfl rfl ?_
              refine RT_step (pc2 := 61) rfl (fun _ _ => rfl) ?_
              refine ow_gf rfl rfl rfl hlen rfl ?_
              refine RT_step (pc2 := 66) rfl (fun _ _ => rfl) ?_
              refine RT_step (pc2 := 67) rfl (fun _ _ => rfl) ?_
              refine ow_iv0 (l2 := ((1, tcl n lim a1 kd1 pl1 w1 le1 nu1 tk (Int32.ofNat 0) fp1) :: (2, bcl bs) :: [(13, dcl13 P Dn lw cl id gl bo), (14, lng pn), (15, ia ri), (16, ia lf), (17, ia wa), (18, ia fo), (19, lng dn), (20, ia ha), (21, ia pa), (22, ia bl), (115, .inr (7, [.int (Int32.ofNat (o + 1)), .int (Int32.ofNat s), .ref 116, .ref 117, .ref 118, .ref 119])), (116, wrd ws), (117, ia sgl), (118, ia nbl)])) rfl rfl rfl rfl hlen rfl rfl rfl ((x1 _ (ov_hl hlen) (ov_at rfl (ov_lt hlen (by decide))) (ov_at rfl (ov_lt hlen (by decide)))).up (by omega)) rfl ?_
              refine RT_step (pc2 := 72) rfl (fun _ _ => rfl) ?_
              refine bcT_eq rfl rfl ?_
              refine RT_step (pc2 := 105) rfl (fun _ _ => rfl) ?_
              refine RT_step (pc2 := 107) rfl (fun _ _ => rfl) ?_
              refine rt_ord rfl (by decide) rfl ?_
              refine rt_isw rfl (v := 19) (by decide +kernel) ?_
              refine RT_step (pc2 := 177) rfl (fun _ _ => rfl) ?_
              refine RT_step (pc2 := 178) rfl (fun _ _ => rfl) ?_
              refine RT_step (pc2 := 179) rfl (fun _ _ => rfl) ?_
              refine RT_step (pc2 := 181) rfl (fun _ _ => rfl) ?_
              refine ow_iv1 (l2 := ((1, tcl n lim a2 kd2 pl2 w2 le2 nu2 tk2 (Int32.ofNat 0) fp2) :: (2, bcl bs) :: [(13, dcl13 P Dn lw cl id gl bo), (14, lng pn), (15, ia ri), (16, ia lf), (17, ia wa), (18, ia fo), (19, lng dn), (20, ia ha), (21, ia pa), (22, ia bl), (115, .inr (7, [.int (Int32.ofNat (o + 1)), .int (Int32.ofNat s2), .ref 116, .ref 117, .ref 118, .ref 119])), (116, wrd ws2), (117, ia sl2), (118, ia nb2)])) rfl rfl rfl rfl hlen rfl rfl rfl ((h.1 H hlen).up (by omega)) rfl ?_
              exact ow_irt rfl rfl rfl
            · refine FR_st2 (l2 := ((180, mcl (Int32.ofNat 0) (Int32.ofNat 0) n lim a2 pl2 (km kd2) nm2 sg2 (Int32.ofNat 0) qm2 wd2 td2 (posn vs (nn + 1) (o + 1) wi nn)) :: (181, mtl ts) :: [(182, ia nw), (187, lng nz), (202, ia nl2)])) rfl rfl rfl ?_
              refine RT_step (pc2 := 1) rfl (fun _ _ => rfl) ?_
              refine rt_bip rfl k8_40 ?_
              refine ow_iv1 (l2 := ((180, mcl (Int32.ofNat 0) (Int32.ofNat 0) n lim a pl (km kd) nm sg (Int32.ofNat 0) qm wd td (posn vs nn o wi tp)) :: (181, mtl ts) :: [(182, ia nw), (187, lng nz), (202, ia nl)])) rfl rfl rfl rfl hlen rfl rfl rfl ((m_isSign (ov_hl hlen) (ov_at rfl (ov_lt hlen (by decide))) hk (c := 40) (s := sv) (by decide) sv1 sv3).up (by omega)) rfl ?_
              refine RT_step (pc2 := 7) rfl (fun _ _ => rfl) ?_
              rw [bq, g]
              refine rt_bip rfl k8_19 ?_
              refine RT_step (pc2 := 10) rfl (fun _ _ => rfl) ?_
              refine m_wl (z := b01 false) hlen hk 11 19 _ rfl rfl rfl rfl (fun L2 l0 l1 l2 => ?_)
              rw [wj_eq t 11 19 rfl, jw] at l2
              refine rt_ild rfl l1 ?_
              refine bcT_ne rfl rfl ?_
              refine rt_ild rfl l2 ?_
              refine rt_bip rfl k8_29 ?_
              refine biT_le rfl (n_le (by omega) (by omega)) ?_
              refine rt_ald rfl l0 ?_
              refine ow_gf rfl rfl rfl hlen rfl ?_
              refine rt_bip rfl k8_20 ?_
              refine biF_eq rfl (n_ne (by omega) (by omega) (by omega)) ?_
              refine rt_ald rfl l0 ?_
              refine ow_gf rfl rfl rfl hlen rfl ?_
              refine rt_bip rfl k8_8 ?_
              refine biF_ne rfl (n_ne (by omega) (by omega) (by omega)) ?_
              refine rt_ald rfl l0 ?_
              refine RT_step (pc2 := 72) rfl (fun _ _ => rfl) ?_
              refine ow_gf rfl rfl rfl hlen rfl ?_
              refine rt_ico rfl ki_1 ?_
              refine ba_iadd rfl ?_
              rw [n_add]
              refine ow_pf (l2 := ((180, mcl (Int32.ofNat 0) (Int32.ofNat 0) n lim a pl (km kd) nm sg (Int32.ofNat 0) qm wd td (posn vs nn (o + 1) wi tp)) :: (181, mtl ts) :: [(182, ia nw), (187, lng nz), (202, ia nl)])) rfl rfl rfl rfl rfl hlen rfl rfl ?_
              refine rt_ald rfl l0 ?_
              refine RT_step (pc2 := 82) rfl (fun _ _ => rfl) ?_
              refine ow_gf rfl rfl rfl hlen rfl ?_
              refine rt_ico rfl ki_1 ?_
              refine ba_iadd rfl ?_
              rw [n_add]
              refine ow_pf (l2 := ((180, mcl (Int32.ofNat 0) (Int32.ofNat 0) n lim a pl (km kd) nm sg (Int32.ofNat 0) qm wd td (posn vs nn (o + 1) (wi + 1) tp)) :: (181, mtl ts) :: [(182, ia nw), (187, lng nz), (202, ia nl)])) rfl rfl rfl rfl rfl hlen rfl rfl ?_
              refine rt_ald rfl l0 ?_
              refine ow_iv0 (l2 := ((180, mcl (Int32.ofNat 0) (Int32.ofNat 0) n lim a1 pl1 (km kd1) nm1 sg1 (Int32.ofNat 0) qm1 wd1 td (posn vs nn (o + 1) (wi + 1) tp)) :: (181, mtl ts) :: [(182, ia nw), (187, lng nz), (202, ia nl)])) rfl rfl rfl rfl hlen rfl rfl rfl ((m1 _ (ov_hl hlen) (ov_at rfl (ov_lt hlen (by decide))) (ov_at rfl (ov_lt hlen (by decide)))).up (by omega)) rfl ?_
              refine rt_ico rfl ki_1 ?_
              refine rt_ist rfl (by decide +kernel) ?_
              refine rt_ild rfl (gs_o rfl l1 rfl) ?_
              refine bcT_eq rfl rfl ?_
              refine rt_ild rfl (gs_o rfl l2 rfl) ?_
              refine rt_bip rfl k8_19 ?_
              refine biF_ne rfl (n_ne (by omega) (by omega) (by omega)) ?_
              refine rt_ild rfl (gs_o rfl l2 rfl) ?_
              refine rt_bip rfl k8_25 ?_
              refine biT_ge rfl (n_le (by omega) (by omega)) ?_
              refine rt_ild rfl (gs_o rfl l2 rfl) ?_
              refine rt_bip rfl k8_26 ?_
              refine biT_ge rfl (n_le (by omega) (by omega)) ?_
              refine rt_ald rfl (gs_o rfl l0 rfl) ?_
              refine rt_ild rfl (gs_o rfl l2 rfl) ?_
              refine ow_iv1 (l2 := ((180, mcl (Int32.ofNat 0) (Int32.ofNat 0) n lim a2 pl2 (km kd2) nm2 sg2 (Int32.ofNat 0) qm2 wd2 td2 (posn vs (nn + 1) (o + 1) (wi + 1) nn)) :: (181, mtl ts) :: [(182, ia nw), (187, lng nz), (202, ia nl2)])) rfl rfl rfl rfl hlen rfl rfl rfl ((h.2 H hlen).up (by omega)) rfl ?_
              refine rt_ist rfl (by decide +kernel) ?_
              refine rt_ald rfl (gs_o rfl (gs_o rfl l0 rfl) rfl) ?_
              refine RT_step (pc2 := 168) rfl (fun _ _ => rfl) ?_
              refine ow_gf rfl rfl rfl hlen rfl ?_
              refine rt_ico rfl ki_1 ?_
              refine ba_isub rfl ?_
              rw [n_sub (by omega), Nat.add_sub_cancel]
              refine ow_pf (l2 := ((180, mcl (Int32.ofNat 0) (Int32.ofNat 0) n lim a2 pl2 (km kd2) nm2 sg2 (Int32.ofNat 0) qm2 wd2 td2 (posn vs (nn + 1) (o + 1) wi nn)) :: (181, mtl ts) :: [(182, ia nw), (187, lng nz), (202, ia nl2)])) rfl rfl rfl rfl rfl hlen rfl rfl ?_
              refine rt_ild rfl gs_n ?_
              exact ow_irt rfl rfl rfl
      · have hk1 := w_k1 t (by omega)
        by_cases cf : o = 20 ∨ wi = 8
        · obtain ⟨T, M, f, hx, hm⟩ := s_ref (bs := bs) (ts := ts) (lim := lim) (po := (posn vs nn o wi tp)) (pl := pl) (tk := tk) (td := td) (fp := fp) (plM := qm) t (kk := 4) (by decide) (by decide) (Or.inl (by omega))
          refine Or.inl ⟨T, M, o, s, nn, tp, ws, sgl, nbl, nl, f, sx, ?_⟩
          by_cases co : o = 20
          · refine ⟨fun H hlen => ?_, fun H hlen => ?_⟩
            · refine FR_st2 (l2 := ((1, T) :: (2, bcl bs) :: [(13, dcl13 P Dn lw cl id gl bo), (14, lng pn), (15, ia ri), (16, ia lf), (17, ia wa), (18, ia fo), (19, lng dn), (20, ia ha), (21, ia pa), (22, ia bl), (115, .inr (7, [.int (Int32.ofNat o), .int (Int32.ofNat s), .ref 116, .ref 117, .ref 118, .ref 119])), (116, wrd ws), (117, ia sgl), (118, ia nbl)])) rfl rfl rfl ?_
              refine RT_step (pc2 := 1) rfl (fun _ _ => rfl) ?_
              refine rt_bip rfl k8_40 ?_
              refine ow_iv1 (l2 := ((1, tcl n lim a kd pl 30 le nu tk (Int32.ofNat 0) fp) :: (2, bcl bs) :: [(13, dcl13 P Dn lw cl id gl bo), (14, lng pn), (15, ia ri), (16, ia lf), (17, ia wa), (18, ia fo), (19, lng dn), (20, ia ha), (21, ia pa), (22, ia bl), (115, .inr (7, [.int (Int32.ofNat o), .int (Int32.ofNat s), .ref 116, .ref 117, .ref 118, .ref 119])), (116, wrd ws), (117, ia sgl), (118, ia nbl)])) rfl rfl rfl rfl hlen rfl rfl rfl ((x_isMarkHere (ov_hl hlen) (ov_at rfl (ov_lt hlen (by decide))) hk5 (c := 40) (s := sv) (by decide) sv1 sv2).up (by omega)) rfl ?_
              rw [g]
              refine RT_step (pc2 := 8) rfl (fun _ _ => rfl) ?_
              refine RT_step (pc2 := 10) rfl (fun _ _ => rfl) ?_
              refine bcT_ne rfl rfl ?_
              refine RT_step (pc2 := 14) rfl (fun _ _ => rfl) ?_
              refine ow_gf rfl rfl rfl hlen rfl ?_
              refine ow_is1 (l2 := ((1, tcl n lim a kd pl 30 le nu tk (Int32.ofNat 0) fp) :: (2, bcl bs) :: [(13, dcl13 P Dn lw cl id gl bo), (14, lng pn), (15, ia ri), (16, ia lf), (17, ia wa), (18, ia fo), (19, lng dn), (20, ia ha), (21, ia pa), (22, ia bl), (115, .inr (7, [.int (Int32.ofNat o), .int (Int32.ofNat s), .ref 116, .ref 117, .ref 118, .ref 119])), (116, wrd ws), (117, ia sgl), (118, ia nbl)])) rfl rfl rfl rfl rfl ((x_beg_t (H := ov H ((1, tcl n lim a kd pl 30 le nu tk (Int32.ofNat 0) fp) :: (2, bcl bs) :: [(13, dcl13 P Dn lw cl id gl bo), (14, lng pn), (15, ia ri), (16, ia lf), (17, ia wa), (18, ia fo), (19, lng dn), (20, ia ha), (21, ia pa), (22, ia bl), (115, .inr (7, [.int (Int32.ofNat o), .int (Int32.ofNat s), .ref 116, .ref 117, .ref 118, .ref 119])), (116, wrd ws), (117, ia sgl), (118, ia nbl)])) (by decide)).up (by omega)) rfl ?_
              refine bcF_ne rfl (by decide) ?_
              refine RT_step (pc2 := 30) rfl (fun _ _ => rfl) ?_
              refine ow_gf rfl rfl rfl hlen rfl ?_
              refine rt_bip rfl k8_20 ?_
              refine biT_ge rfl (n_le (by omega) (by omega)) ?_
              refine RT_step (pc2 := 45) rfl (fun _ _ => rfl) ?_
              refine rt_ico rfl ki_4 ?_
              refine ow_iv1 (l2 := ((1, T) :: (2, bcl bs) :: [(13, dcl13 P Dn lw cl id gl bo), (14, lng pn), (15, ia ri), (16, ia lf), (17, ia wa), (18, ia fo), (19, lng dn), (20, ia ha), (21, ia pa), (22, ia bl), (115, .inr (7, [.int (Int32.ofNat o), .int (Int32.ofNat s), .ref 116, .ref 117, .ref 118, .ref 119])), (116, wrd ws), (117, ia sgl), (118, ia nbl)])) rfl rfl rfl rfl hlen rfl rfl rfl ((hx _ (ov_hl hlen) (ov_at rfl (ov_lt hlen (by decide))) (ov_at rfl (ov_lt hlen (by decide)))).up (by omega)) rfl ?_
              exact ow_irt rfl rfl rfl
            · refine FR_st2 (l2 := ((180, M) :: (181, mtl ts) :: [(182, ia nw), (187, lng nz), (202, ia nl)])) rfl rfl rfl ?_
              refine RT_step (pc2 := 1) rfl (fun _ _ => rfl) ?_
              refine rt_bip rfl k8_40 ?_
              refine ow_iv1 (l2 := ((180, mcl (Int32.ofNat 0) (Int32.ofNat 0) n lim a pl (km kd) nm sg (Int32.ofNat 0) qm wd td (posn vs nn o wi tp)) :: (181, mtl ts) :: [(182, ia nw), (187, lng nz), (202, ia nl)])) rfl rfl rfl rfl hlen rfl rfl rfl ((m_isSign (ov_hl hlen) (ov_at rfl (ov_lt hlen (by decide))) hk (c := 40) (s := sv) (by decide) sv1 sv3).up (by omega)) rfl ?_
              refine RT_step (pc2 := 7) rfl (fun _ _ => rfl) ?_
              rw [bq, g]
              refine rt_bip rfl k8_19 ?_
              refine RT_step (pc2 := 10) rfl (fun _ _ => rfl) ?_
              refine m_wl (z := b01 false) hlen hk 11 19 _ rfl rfl rfl rfl (fun L2 l0 l1 l2 => ?_)
              rw [wj_eq t 11 19 rfl, jw] at l2
              refine rt_ild rfl l1 ?_
              refine bcT_ne rfl rfl ?_
              refine rt_ild rfl l2 ?_
              refine rt_bip rfl k8_29 ?_
              refine biT_le rfl (n_le (by omega) (by omega)) ?_
              refine rt_ald rfl l0 ?_
              refine ow_gf rfl rfl rfl hlen rfl ?_
              refine rt_bip rfl k8_20 ?_
              refine biT_eq rfl (n_eq co) ?_
              refine rt_ald rfl l0 ?_
              refine rt_ico rfl ki_4 ?_
              refine ow_iv1 (l2 := ((180, M) :: (181, mtl ts) :: [(182, ia nw), (187, lng nz), (202, ia nl)])) rfl rfl rfl rfl hlen rfl rfl rfl ((hm _ (ov_hl hlen) (ov_at rfl (ov_lt hlen (by decide))) (ov_at rfl (ov_lt hlen (by decide)))).up (by omega)) rfl ?_
              exact ow_irt rfl rfl rfl
          · refine ⟨fun H hlen => ?_, fun H hlen => ?_⟩
            · refine FR_st2 (l2 := ((1, T) :: (2, bcl bs) :: [(13, dcl13 P Dn lw cl id gl bo), (14, lng pn), (15, ia ri), (16, ia lf), (17, ia wa), (18, ia fo), (19, lng dn), (20, ia ha), (21, ia pa), (22, ia bl), (115, .inr (7, [.int (Int32.ofNat o), .int (Int32.ofNat s), .ref 116, .ref 117, .ref 118, .ref 119])), (116, wrd ws), (117, ia sgl), (118, ia nbl)])) rfl rfl rfl ?_
              refine RT_step (pc2 := 1) rfl (fun _ _ => rfl) ?_
              refine rt_bip rfl k8_40 ?_
              refine ow_iv1 (l2 := ((1, tcl n lim a kd pl 30 le nu tk (Int32.ofNat 0) fp) :: (2, bcl bs) :: [(13, dcl13 P Dn lw cl id gl bo), (14, lng pn), (15, ia ri), (16, ia lf), (17, ia wa), (18, ia fo), (19, lng dn), (20, ia ha), (21, ia pa), (22, ia bl), (115, .inr (7, [.int (Int32.ofNat o), .int (Int32.ofNat s), .ref 116, .ref 117, .ref 118, .ref 119])), (116, wrd ws), (117, ia sgl), (118, ia nbl)])) rfl rfl rfl rfl hlen rfl rfl rfl ((x_isMarkHere (ov_hl hlen) (ov_at rfl (ov_lt hlen (by decide))) hk5 (c := 40) (s := sv) (by decide) sv1 sv2).up (by omega)) rfl ?_
              rw [g]
              refine RT_step (pc2 := 8) rfl (fun _ _ => rfl) ?_
              refine RT_step (pc2 := 10) rfl (fun _ _ => rfl) ?_
              refine bcT_ne rfl rfl ?_
              refine RT_step (pc2 := 14) rfl (fun _ _ => rfl) ?_
              refine ow_gf rfl rfl rfl hlen rfl ?_
              refine ow_is1 (l2 := ((1, tcl n lim a kd pl 30 le nu tk (Int32.ofNat 0) fp) :: (2, bcl bs) :: [(13, dcl13 P Dn lw cl id gl bo), (14, lng pn), (15, ia ri), (16, ia lf), (17, ia wa), (18, ia fo), (19, lng dn), (20, ia ha), (21, ia pa), (22, ia bl), (115, .inr (7, [.int (Int32.ofNat o), .int (Int32.ofNat s), .ref 116, .ref 117, .ref 118, .ref 119])), (116, wrd ws), (117, ia sgl), (118, ia nbl)])) rfl rfl rfl rfl rfl ((x_beg_t (H := ov H ((1, tcl n lim a kd pl 30 le nu tk (Int32.ofNat 0) fp) :: (2, bcl bs) :: [(13, dcl13 P Dn lw cl id gl bo), (14, lng pn), (15, ia ri), (16, ia lf), (17, ia wa), (18, ia fo), (19, lng dn), (20, ia ha), (21, ia pa), (22, ia bl), (115, .inr (7, [.int (Int32.ofNat o), .int (Int32.ofNat s), .ref 116, .ref 117, .ref 118, .ref 119])), (116, wrd ws), (117, ia sgl), (118, ia nbl)])) (by decide)).up (by omega)) rfl ?_
              refine bcF_ne rfl (by decide) ?_
              refine RT_step (pc2 := 30) rfl (fun _ _ => rfl) ?_
              refine ow_gf rfl rfl rfl hlen rfl ?_
              refine rt_bip rfl k8_20 ?_
              refine biF_ge rfl (n_nle (by omega) (by omega)) ?_
              refine RT_step (pc2 := 39) rfl (fun _ _ => rfl) ?_
              refine rt_bip rfl k8_8 ?_
              refine biF_le rfl (n_nle (by omega) (by omega)) ?_
              refine RT_step (pc2 := 45) rfl (fun _ _ => rfl) ?_
              refine rt_ico rfl ki_4 ?_
              refine ow_iv1 (l2 := ((1, T) :: (2, bcl bs) :: [(13, dcl13 P Dn lw cl id gl bo), (14, lng pn), (15, ia ri), (16, ia lf), (17, ia wa), (18, ia fo), (19, lng dn), (20, ia ha), (21, ia pa), (22, ia bl), (115, .inr (7, [.int (Int32.ofNat o), .int (Int32.ofNat s), .ref 116, .ref 117, .ref 118, .ref 119])), (116, wrd ws), (117, ia sgl), (118, ia nbl)])) rfl rfl rfl rfl hlen rfl rfl rfl ((hx _ (ov_hl hlen) (ov_at rfl (ov_lt hlen (by decide))) (ov_at rfl (ov_lt hlen (by decide)))).up (by omega)) rfl ?_
              exact ow_irt rfl rfl rfl
            · refine FR_st2 (l2 := ((180, M) :: (181, mtl ts) :: [(182, ia nw), (187, lng nz), (202, ia nl)])) rfl rfl rfl ?_
              refine RT_step (pc2 := 1) rfl (fun _ _ => rfl) ?_
              refine rt_bip rfl k8_40 ?_
              refine ow_iv1 (l2 := ((180, mcl (Int32.ofNat 0) (Int32.ofNat 0) n lim a pl (km kd) nm sg (Int32.ofNat 0) qm wd td (posn vs nn o wi tp)) :: (181, mtl ts) :: [(182, ia nw), (187, lng nz), (202, ia nl)])) rfl rfl rfl rfl hlen rfl rfl rfl ((m_isSign (ov_hl hlen) (ov_at rfl (ov_lt hlen (by decide))) hk (c := 40) (s := sv) (by decide) sv1 sv3).up (by omega)) rfl ?_
              refine RT_step (pc2 := 7) rfl (fun _ _ => rfl) ?_
              rw [bq, g]
              refine rt_bip rfl k8_19 ?_
              refine RT_step (pc2 := 10) rfl (fun _ _ => rfl) ?_
              refine m_wl (z := b01 false) hlen hk 11 19 _ rfl rfl rfl rfl (fun L2 l0 l1 l2 => ?_)
              rw [wj_eq t 11 19 rfl, jw] at l2
              refine rt_ild rfl l1 ?_
              refine bcT_ne rfl rfl ?_
              refine rt_ild rfl l2 ?_
              refine rt_bip rfl k8_29 ?_
              refine biT_le rfl (n_le (by omega) (by omega)) ?_
              refine rt_ald rfl l0 ?_
              refine ow_gf rfl rfl rfl hlen rfl ?_
              refine rt_bip rfl k8_20 ?_
              refine biF_eq rfl (n_ne co (by omega) (by omega)) ?_
              refine rt_ald rfl l0 ?_
              refine ow_gf rfl rfl rfl hlen rfl ?_
              refine rt_bip rfl k8_8 ?_
              refine biT_ne rfl (n_eq (by omega)) ?_
              refine rt_ald rfl l0 ?_
              refine rt_ico rfl ki_4 ?_
              refine ow_iv1 (l2 := ((180, M) :: (181, mtl ts) :: [(182, ia nw), (187, lng nz), (202, ia nl)])) rfl rfl rfl rfl hlen rfl rfl rfl ((hm _ (ov_hl hlen) (ov_at rfl (ov_lt hlen (by decide))) (ov_at rfl (ov_lt hlen (by decide)))).up (by omega)) rfl ?_
              exact ow_irt rfl rfl rfl
        · obtain ⟨T1, M1, c1, x1, m1⟩ := s_adv hB hM hb hn hl (po := (posn vs nn (o + 1) (wi + 1) tp)) (pl := pl) (tk := tk) (td := td) (fp := fp) (plM := qm) t (by omega) (by omega)
          obtain ⟨a1, kd1, pl1, w1, le1, nu1, fp1, nm1, sg1, qm1, wd1, rfl, rfl, t1⟩ := c1
          rcases sm13_115 hB hM hb hn hl (pl := pl1) (tk := tk) (td := td) (fp := fp1) (qm := qm1) (o := o + 1) (nn := nn) (wi := wi + 1) (tp := tp) t1 sx ln (by omega) (by omega) (by omega) (w0 := 30) (j0 := j) (by decide) (by omega) with ⟨T, M, f, h⟩ | ⟨tk2, td2, T, M, s2, ws2, sl2, nb2, nl2, c2, sx2, ln2, h⟩
          · have f0 := f
            obtain ⟨a9, kd9, pl9, w9, le9, nu9, tk9, kk9, am9, fm9, kM9, nm9, sg9, fa9, qm9, wd9, td9, rfl, rfl, f9⟩ := f
            refine Or.inl ⟨tcl n lim a9 kd9 pl9 w9 le9 nu9 tk9 (Int32.ofNat kk9) (Int32.ofNat pl9), mcl (Int32.ofNat 0) (Int32.ofNat 0) n lim am9 fm9 kM9 nm9 sg9 fa9 qm9 wd9 td9 (posn vs nn (o + 1) wi tp), (o + 1), s, nn, tp, ws, sgl, nbl, nl, ⟨a9, kd9, pl9, w9, le9, nu9, tk9, kk9, am9, fm9, kM9, nm9, sg9, fa9, qm9, wd9, td9, rfl, rfl, f9⟩, sx, fun H hlen => ?_, fun H hlen => ?_⟩
            · refine FR_st2 (l2 := ((1, tcl n lim a9 kd9 pl9 w9 le9 nu9 tk9 (Int32.ofNat kk9) (Int32.ofNat pl9)) :: (2, bcl bs) :: [(13, dcl13 P Dn lw cl id gl bo), (14, lng pn), (15, ia ri), (16, ia lf), (17, ia wa), (18, ia fo), (19, lng dn), (20, ia ha), (21, ia pa), (22, ia bl), (115, .inr (7, [.int (Int32.ofNat (o + 1)), .int (Int32.ofNat s), .ref 116, .ref 117, .ref 118, .ref 119])), (116, wrd ws), (117, ia sgl), (118, ia nbl)])) rfl rfl rfl ?_
              refine RT_step (pc2 := 1) rfl (fun _ _ => rfl) ?_
              refine rt_bip rfl k8_40 ?_
              refine ow_iv1 (l2 := ((1, tcl n lim a kd pl 30 le nu tk (Int32.ofNat 0) fp) :: (2, bcl bs) :: [(13, dcl13 P Dn lw cl id gl bo), (14, lng pn), (15, ia ri), (16, ia lf), (17, ia wa), (18, ia fo), (19, lng dn), (20, ia ha), (21, ia pa), (22, ia bl), (115, .inr (7, [.int (Int32.ofNat o), .int (Int32.ofNat s), .ref 116, .ref 117, .ref 118, .ref 119])), (116, wrd ws), (117, ia sgl), (118, ia nbl)])) rfl rfl rfl rfl hlen rfl rfl rfl ((x_isMarkHere (ov_hl hlen) (ov_at rfl (ov_lt hlen (by decide))) hk5 (c := 40) (s := sv) (by decide) sv1 sv2).up (by omega)) rfl ?_
              rw [g]
              refine RT_step (pc2 := 8) rfl (fun _ _ => rfl) ?_
              refine RT_step (pc2 := 10) rfl (fun _ _ => rfl) ?_
              refine bcT_ne rfl rfl ?_
              refine RT_step (pc2 := 14) rfl (fun _ _ => rfl) ?_
              refine ow_gf rfl rfl rfl hlen rfl ?_
              refine ow_is1 (l2 := ((1, tcl n lim a kd pl 30 le nu tk (Int32.ofNat 0) fp) :: (2, bcl bs) :: [(13, dcl13 P Dn lw cl id gl bo), (14, lng pn), (15, ia ri), (16, ia lf), (17, ia wa), (18, ia fo), (19, lng dn), (20, ia ha), (21, ia pa), (22, ia bl), (115, .inr (7, [.int (Int32.ofNat o), .int (Int32.ofNat s), .ref 116, .ref 117, .ref 118, .ref 119])), (116, wrd ws), (117, ia sgl), (118, ia nbl)])) rfl rfl rfl rfl rfl ((x_beg_t (H := ov H ((1, tcl n lim a kd pl 30 le nu tk (Int32.ofNat 0) fp) :: (2, bcl bs) :: [(13, dcl13 P Dn lw cl id gl bo), (14, lng pn), (15, ia ri), (16, ia lf), (17, ia wa), (18, ia fo), (19, lng dn), (20, ia ha), (21, ia pa), (22, ia bl), (115, .inr (7, [.int (Int32.ofNat o), .int (Int32.ofNat s), .ref 116, .ref 117, .ref 118, .ref 119])), (116, wrd ws), (117, ia sgl), (118, ia nbl)])) (by decide)).up (by omega)) rfl ?_
              refine bcF_ne rfl (by decide) ?_
              refine RT_step (pc2 := 30) rfl (fun _ _ => rfl) ?_
              refine ow_gf rfl rfl rfl hlen rfl ?_
              refine rt_bip rfl k8_20 ?_
              refine biF_ge rfl (n_nle (by omega) (by omega)) ?_
              refine RT_step (pc2 := 39) rfl (fun _ _ => rfl) ?_
              refine rt_bip rfl k8_8 ?_
              refine biT_le rfl (n_le (by omega) (by omega)) ?_
              refine RT_step (pc2 := 51) rfl (fun _ _ => rfl) ?_
              refine RT_step (pc2 := 52) rfl (fun _ _ => rfl) ?_
              refine ow_gf rfl rfl rfl hlen rfl ?_
              refine rt_ico rfl ki_1 ?_
              refine ba_iadd rfl ?_
              rw [n_add]
              refine ow_pf (l2 := ((1, tcl n lim a kd pl 30 le nu tk (Int32.ofNat 0) fp) :: (2, bcl bs) :: [(13, dcl13 P Dn lw cl id gl bo), (14, lng pn), (15, ia ri), (16, ia lf), (17, ia wa), (18, ia fo), (19, lng dn), (20, ia ha), (21, ia pa), (22, ia bl), (115, .inr (7, [.int (Int32.ofNat (o + 1)), .int (Int32.ofNat s), .ref 116, .ref 117, .ref 118, .ref 119])), (116, wrd ws), (117, ia sgl), (118, ia nbl)])) rfl rfl rfl rfl rfl hlen rfl rfl ?_
              refine RT_step (pc2 := 61) rfl (fun _ _ => rfl) ?_
              refine ow_gf rfl rfl rfl hlen rfl ?_
              refine RT_step (pc2 := 66) rfl (fun _ _ => rfl) ?_
              refine RT_step (pc2 := 67) rfl (fun _ _ => rfl) ?_
              refine ow_iv0 (l2 := ((1, tcl n lim a1 kd1 pl1 w1 le1 nu1 tk (Int32.ofNat 0) fp1) :: (2, bcl bs) :: [(13, dcl13 P Dn lw cl id gl bo), (14, lng pn), (15, ia ri), (16, ia lf), (17, ia wa), (18, ia fo), (19, lng dn), (20, ia ha), (21, ia pa), (22, ia bl), (115, .inr (7, [.int (Int32.ofNat (o + 1)), .int (Int32.ofNat s), .ref 116, .ref 117, .ref 118, .ref 119])), (116, wrd ws), (117, ia sgl), (118, ia nbl)])) rfl rfl rfl rfl hlen rfl rfl rfl ((x1 _ (ov_hl hlen) (ov_at rfl (ov_lt hlen (by decide))) (ov_at rfl (ov_lt hlen (by decide)))).up (by omega)) rfl ?_
              refine RT_step (pc2 := 72) rfl (fun _ _ => rfl) ?_
              refine bcT_eq rfl rfl ?_
              refine RT_step (pc2 := 105) rfl (fun _ _ => rfl) ?_
              refine RT_step (pc2 := 107) rfl (fun _ _ => rfl) ?_
              refine rt_ord rfl (by decide) rfl ?_
              refine rt_isw rfl (v := 20) (by decide +kernel) ?_
              refine RT_step (pc2 := 177) rfl (fun _ _ => rfl) ?_
              refine RT_step (pc2 := 178) rfl (fun _ _ => rfl) ?_
              refine RT_step (pc2 := 179) rfl (fun _ _ => rfl) ?_
              refine RT_step (pc2 := 181) rfl (fun _ _ => rfl) ?_
              refine ow_iv1 (l2 := ((1, tcl n lim a9 kd9 pl9 w9 le9 nu9 tk9 (Int32.ofNat kk9) (Int32.ofNat pl9)) :: (2, bcl bs) :: [(13, dcl13 P Dn lw cl id gl bo), (14, lng pn), (15, ia ri), (16, ia lf), (17, ia wa), (18, ia fo), (19, lng dn), (20, ia ha), (21, ia pa), (22, ia bl), (115, .inr (7, [.int (Int32.ofNat (o + 1)), .int (Int32.ofNat s), .ref 116, .ref 117, .ref 118, .ref 119])), (116, wrd ws), (117, ia sgl), (118, ia nbl)])) rfl rfl rfl rfl hlen rfl rfl rfl ((h.1 H hlen).up (by omega)) rfl ?_
              exact ow_irt rfl rfl rfl
            · refine FR_st2 (l2 := ((180, mcl (Int32.ofNat 0) (Int32.ofNat 0) n lim am9 fm9 kM9 nm9 sg9 fa9 qm9 wd9 td9 (posn vs nn (o + 1) wi tp)) :: (181, mtl ts) :: [(182, ia nw), (187, lng nz), (202, ia nl)])) rfl rfl rfl ?_
              refine RT_step (pc2 := 1) rfl (fun _ _ => rfl) ?_
              refine rt_bip rfl k8_40 ?_
              refine ow_iv1 (l2 := ((180, mcl (Int32.ofNat 0) (Int32.ofNat 0) n lim a pl (km kd) nm sg (Int32.ofNat 0) qm wd td (posn vs nn o wi tp)) :: (181, mtl ts) :: [(182, ia nw), (187, lng nz), (202, ia nl)])) rfl rfl rfl rfl hlen rfl rfl rfl ((m_isSign (ov_hl hlen) (ov_at rfl (ov_lt hlen (by decide))) hk (c := 40) (s := sv) (by decide) sv1 sv3).up (by omega)) rfl ?_
              refine RT_step (pc2 := 7) rfl (fun _ _ => rfl) ?_
              rw [bq, g]
              refine rt_bip rfl k8_19 ?_
              refine RT_step (pc2 := 10) rfl (fun _ _ => rfl) ?_
              refine m_wl (z := b01 false) hlen hk 11 19 _ rfl rfl rfl rfl (fun L2 l0 l1 l2 => ?_)
              rw [wj_eq t 11 19 rfl, jw] at l2
              refine rt_ild rfl l1 ?_
              refine bcT_ne rfl rfl ?_
              refine rt_ild rfl l2 ?_
              refine rt_bip rfl k8_29 ?_
              refine biT_le rfl (n_le (by omega) (by omega)) ?_
              refine rt_ald rfl l0 ?_
              refine ow_gf rfl rfl rfl hlen rfl ?_
              refine rt_bip rfl k8_20 ?_
              refine biF_eq rfl (n_ne (by omega) (by omega) (by omega)) ?_
              refine rt_ald rfl l0 ?_
              refine ow_gf rfl rfl rfl hlen rfl ?_
              refine rt_bip rfl k8_8 ?_
              refine biF_ne rfl (n_ne (by omega) (by omega) (by omega)) ?_
              refine rt_ald rfl l0 ?_
              refine RT_step (pc2 := 72) rfl (fun _ _ => rfl) ?_
              refine ow_gf rfl rfl rfl hlen rfl ?_
              refine rt_ico rfl ki_1 ?_
              refine ba_iadd rfl ?_
              rw [n_add]
              refine ow_pf (l2 := ((180, mcl (Int32.ofNat 0) (Int32.ofNat 0) n lim a pl (km kd) nm sg (Int32.ofNat 0) qm wd td (posn vs nn (o + 1) wi tp)) :: (181, mtl ts) :: [(182, ia nw), (187, lng nz), (202, ia nl)])) rfl rfl rfl rfl rfl hlen rfl rfl ?_
              refine rt_ald rfl l0 ?_
              refine RT_step (pc2 := 82) rfl (fun _ _ => rfl) ?_
              refine ow_gf rfl rfl rfl hlen rfl ?_
              refine rt_ico rfl ki_1 ?_
              refine ba_iadd rfl ?_
              rw [n_add]
              refine ow_pf (l2 := ((180, mcl (Int32.ofNat 0) (Int32.ofNat 0) n lim a pl (km kd) nm sg (Int32.ofNat 0) qm wd td (posn vs nn (o + 1) (wi + 1) tp)) :: (181, mtl ts) :: [(182, ia nw), (187, lng nz), (202, ia nl)])) rfl rfl rfl rfl rfl hlen rfl rfl ?_
              refine rt_ald rfl l0 ?_
              refine ow_iv0 (l2 := ((180, mcl (Int32.ofNat 0) (Int32.ofNat 0) n lim a1 pl1 (km kd1) nm1 sg1 (Int32.ofNat 0) qm1 wd1 td (posn vs nn (o + 1) (wi + 1) tp)) :: (181, mtl ts) :: [(182, ia nw), (187, lng nz), (202, ia nl)])) rfl rfl rfl rfl hlen rfl rfl rfl ((m1 _ (ov_hl hlen) (ov_at rfl (ov_lt hlen (by decide))) (ov_at rfl (ov_lt hlen (by decide)))).up (by omega)) rfl ?_
              refine rt_ico rfl ki_1 ?_
              refine rt_ist rfl (by decide +kernel) ?_
              refine rt_ild rfl (gs_o rfl l1 rfl) ?_
              refine bcT_eq rfl rfl ?_
              refine rt_ild rfl (gs_o rfl l2 rfl) ?_
              refine rt_bip rfl k8_19 ?_
              refine biF_ne rfl (n_ne (by omega) (by omega) (by omega)) ?_
              refine rt_ild rfl (gs_o rfl l2 rfl) ?_
              refine rt_bip rfl k8_25 ?_
              refine biT_ge rfl (n_le (by omega) (by omega)) ?_
              refine rt_ild rfl (gs_o rfl l2 rfl) ?_
              refine rt_bip rfl k8_26 ?_
              refine biT_ge rfl (n_le (by omega) (by omega)) ?_
              refine rt_ald rfl (gs_o rfl l0 rfl) ?_
              refine rt_ild rfl (gs_o rfl l2 rfl) ?_
              refine ow_iv1 (l2 := ((180, mcl (Int32.ofNat 0) (Int32.ofNat 0) n lim am9 fm9 kM9 nm9 sg9 fa9 qm9 wd9 td9 (posn vs nn (o + 1) (wi + 1) tp)) :: (181, mtl ts) :: [(182, ia nw), (187, lng nz), (202, ia nl)])) rfl rfl rfl rfl hlen rfl rfl rfl ((h.2 H hlen).up (by omega)) rfl ?_
              refine rt_ist rfl (by decide +kernel) ?_
              refine rt_ald rfl (gs_o rfl (gs_o rfl l0 rfl) rfl) ?_
              refine RT_step (pc2 := 168) rfl (fun _ _ => rfl) ?_
              refine ow_gf rfl rfl rfl hlen rfl ?_
              refine rt_ico rfl ki_1 ?_
              refine ba_isub rfl ?_
              rw [n_sub (by omega), Nat.add_sub_cancel]
              refine ow_pf (l2 := ((180, mcl (Int32.ofNat 0) (Int32.ofNat 0) n lim am9 fm9 kM9 nm9 sg9 fa9 qm9 wd9 td9 (posn vs nn (o + 1) wi tp)) :: (181, mtl ts) :: [(182, ia nw), (187, lng nz), (202, ia nl)])) rfl rfl rfl rfl rfl hlen rfl rfl ?_
              refine rt_ild rfl gs_n ?_
              exact ow_irt rfl rfl rfl
          · obtain ⟨a2, kd2, pl2, w2, le2, nu2, fp2, nm2, sg2, qm2, wd2, rfl, rfl, t2⟩ := c2
            refine Or.inr ⟨(k + 1 + 2), tk2, td2, tcl n lim a2 kd2 pl2 w2 le2 nu2 tk2 (Int32.ofNat 0) fp2, mcl (Int32.ofNat 0) (Int32.ofNat 0) n lim a2 pl2 (km kd2) nm2 sg2 (Int32.ofNat 0) qm2 wd2 td2 (posn vs (nn + 1) (o + 1) wi nn), (o + 1), s2, (nn + 1), nn, ws2, sl2, nb2, nl2, (tf_td t2), by omega, by omega, by omega, by omega, ?_, ?_, fun H hlen => ?_, fun H hlen => ?_⟩
            · exact sx2
            · exact ln2
            · refine FR_st2 (l2 := ((1, tcl n lim a2 kd2 pl2 w2 le2 nu2 tk2 (Int32.ofNat 0) fp2) :: (2, bcl bs) :: [(13, dcl13 P Dn lw cl id gl bo), (14, lng pn), (15, ia ri), (16, ia lf), (17, ia wa), (18, ia fo), (19, lng dn), (20, ia ha), (21, ia pa), (22, ia bl), (115, .inr (7, [.int (Int32.ofNat (o + 1)), .int (Int32.ofNat s2), .ref 116, .ref 117, .ref 118, .ref 119])), (116, wrd ws2), (117, ia sl2), (118, ia nb2)])) rfl rfl rfl ?_
              refine RT_step (pc2 := 1) rfl (fun _ _ => rfl) ?_
              refine rt_bip rfl k8_40 ?_
              refine ow_iv1 (l2 := ((1, tcl n lim a kd pl 30 le nu tk (Int32.ofNat 0) fp) :: (2, bcl bs) :: [(13, dcl13 P Dn lw cl id gl bo), (14, lng pn), (15, ia ri), (16, ia lf), (17, ia wa), (18, ia fo), (19, lng dn), (20, ia ha), (21, ia pa), (22, ia bl), (115, .inr (7, [.int (Int32.ofNat o), .int (Int32.ofNat s), .ref 116, .ref 117, .ref 118, .ref 119])), (116, wrd ws), (117, ia sgl), (118, ia nbl)])) rfl rfl rfl rfl hlen rfl rfl rfl ((x_isMarkHere (ov_hl hlen) (ov_at rfl (ov_lt hlen (by decide))) hk5 (c := 40) (s := sv) (by decide) sv1 sv2).up (by omega)) rfl ?_
              rw [g]
              refine RT_step (pc2 := 8) rfl (fun _ _ => rfl) ?_
              refine RT_step (pc2 := 10) rfl (fun _ _ => rfl) ?_
              refine bcT_ne rfl rfl ?_
              refine RT_step (pc2 := 14) rfl (fun _ _ => rfl) ?_
              refine ow_gf rfl rfl rfl hlen rfl ?_
              refine ow_is1 (l2 := ((1, tcl n lim a kd pl 30 le nu tk (Int32.ofNat 0) fp) :: (2, bcl bs) :: [(13, dcl13 P Dn lw cl id gl bo), (14, lng pn), (15, ia ri), (16, ia lf), (17, ia wa), (18, ia fo), (19, lng dn), (20, ia ha), (21, ia pa), (22, ia bl), (115, .inr (7, [.int (Int32.ofNat o), .int (Int32.ofNat s), .ref 116, .ref 117, .ref 118, .ref 119])), (116, wrd ws), (117, ia sgl), (118, ia nbl)])) rfl rfl rfl rfl rfl ((x_beg_t (H := ov H ((1, tcl n lim a kd pl 30 le nu tk (Int32.ofNat 0) fp) :: (2, bcl bs) :: [(13, dcl13 P Dn lw cl id gl bo), (14, lng pn), (15, ia ri), (16, ia lf), (17, ia wa), (18, ia fo), (19, lng dn), (20, ia ha), (21, ia pa), (22, ia bl), (115, .inr (7, [.int (Int32.ofNat o), .int (Int32.ofNat s), .ref 116, .ref 117, .ref 118, .ref 119])), (116, wrd ws), (117, ia sgl), (118, ia nbl)])) (by decide)).up (by omega)) rfl ?_
              refine bcF_ne rfl (by decide) ?_
              refine RT_step (pc2 := 30) rfl (fun _ _ => rfl) ?_
              refine ow_gf rfl rfl rfl hlen rfl ?_
              refine rt_bip rfl k8_20 ?_
              refine biF_ge rfl (n_nle (by omega) (by omega)) ?_
              refine RT_step (pc2 := 39) rfl (fun _ _ => rfl) ?_
              refine rt_bip rfl k8_8 ?_
              refine biT_le rfl (n_le (by omega) (by omega)) ?_
              refine RT_step (pc2 := 51) rfl (fun _ _ => rfl) ?_
              refine RT_step (pc2 := 52) rfl (fun _ _ => rfl) ?_
              refine ow_gf rfl rfl rfl hlen rfl ?_
              refine rt_ico rfl ki_1 ?_
              refine ba_iadd rfl ?_
              rw [n_add]
              refine ow_pf (l2 := ((1, tcl n lim a kd pl 30 le nu tk (Int32.ofNat 0) fp) :: (2, bcl bs) :: [(13, dcl13 P Dn lw cl id gl bo), (14, lng pn), (15, ia ri), (16, ia lf), (17, ia wa), (18, ia fo), (19, lng dn), (20, ia ha), (21, ia pa), (22, ia bl), (115, .inr (7, [.int (Int32.ofNat (o + 1)), .int (Int32.ofNat s), .ref 116, .ref 117, .ref 118, .ref 119])), (116, wrd ws), (117, ia sgl), (118, ia nbl)])) rfl rfl rfl rfl rfl hlen rfl rfl ?_
              refine RT_step (pc2 := 61) rfl (fun _ _ => rfl) ?_
              refine ow_gf rfl rfl rfl hlen rfl ?_
              refine RT_step (pc2 := 66) rfl (fun _ _ => rfl) ?_
              refine RT_step (pc2 := 67) rfl (fun _ _ => rfl) ?_
              refine ow_iv0 (l2 := ((1, tcl n lim a1 kd1 pl1 w1 le1 nu1 tk (Int32.ofNat 0) fp1) :: (2, bcl bs) :: [(13, dcl13 P Dn lw cl id gl bo), (14, lng pn), (15, ia ri), (16, ia lf), (17, ia wa), (18, ia fo), (19, lng dn), (20, ia ha), (21, ia pa), (22, ia bl), (115, .inr (7, [.int (Int32.ofNat (o + 1)), .int (Int32.ofNat s), .ref 116, .ref 117, .ref 118, .ref 119])), (116, wrd ws), (117, ia sgl), (118, ia nbl)])) rfl rfl rfl rfl hlen rfl rfl rfl ((x1 _ (ov_hl hlen) (ov_at rfl (ov_lt hlen (by decide))) (ov_at rfl (ov_lt hlen (by decide)))).up (by omega)) rfl ?_
              refine RT_step (pc2 := 72) rfl (fun _ _ => rfl) ?_
              refine bcT_eq rfl rfl ?_
              refine RT_step (pc2 := 105) rfl (fun _ _ => rfl) ?_
              refine RT_step (pc2 := 107) rfl (fun _ _ => rfl) ?_
              refine rt_ord rfl (by decide) rfl ?_
              refine rt_isw rfl (v := 20) (by decide +kernel) ?_
              refine RT_step (pc2 := 177) rfl (fun _ _ => rfl) ?_
              refine RT_step (pc2 := 178) rfl (fun _ _ => rfl) ?_
              refine RT_step (pc2 := 179) rfl (fun _ _ => rfl) ?_
              refine RT_step (pc2 := 181) rfl (fun _ _ => rfl) ?_
              refine ow_iv1 (l2 := ((1, tcl n lim a2 kd2 pl2 w2 le2 nu2 tk2 (Int32.ofNat 0) fp2) :: (2, bcl bs) :: [(13, dcl13 P Dn lw cl id gl bo), (14, lng pn), (15, ia ri), (16, ia lf), (17, ia wa), (18, ia fo), (19, lng dn), (20, ia ha), (21, ia pa), (22, ia bl), (115, .inr (7, [.int (Int32.ofNat (o + 1)), .int (Int32.ofNat s2), .ref 116, .ref 117, .ref 118, .ref 119])), (116, wrd ws2), (117, ia sl2), (118, ia nb2)])) rfl rfl rfl rfl hlen rfl rfl rfl ((h.1 H hlen).up (by omega)) rfl ?_
              exact ow_irt rfl rfl rfl
            · refine FR_st2 (l2 := ((180, mcl (Int32.ofNat 0) (Int32.ofNat 0) n lim a2 pl2 (km kd2) nm2 sg2 (Int32.ofNat 0) qm2 wd2 td2 (posn vs (nn + 1) (o + 1) wi nn)) :: (181, mtl ts) :: [(182, ia nw), (187, lng nz), (202, ia nl2)])) rfl rfl rfl ?_
              refine RT_step (pc2 := 1) rfl (fun _ _ => rfl) ?_
              refine rt_bip rfl k8_40 ?_
              refine ow_iv1 (l2 := ((180, mcl (Int32.ofNat 0) (Int32.ofNat 0) n lim a pl (km kd) nm sg (Int32.ofNat 0) qm wd td (posn vs nn o wi tp)) :: (181, mtl ts) :: [(182, ia nw), (187, lng nz), (202, ia nl)])) rfl rfl rfl rfl hlen rfl rfl rfl ((m_isSign (ov_hl hlen) (ov_at rfl (ov_lt hlen (by decide))) hk (c := 40) (s := sv) (by decide) sv1 sv3).up (by omega)) rfl ?_
              refine RT_step (pc2 := 7) rfl (fun _ _ => rfl) ?_
              rw [bq, g]
              refine rt_bip rfl k8_19 ?_
              refine RT_step (pc2 := 10) rfl (fun _ _ => rfl) ?_
              refine m_wl (z := b01 false) hlen hk 11 19 _ rfl rfl rfl rfl (fun L2 l0 l1 l2 => ?_)
              rw [wj_eq t 11 19 rfl, jw] at l2
              refine rt_ild rfl l1 ?_
              refine bcT_ne rfl rfl ?_
              refine rt_ild rfl l2 ?_
              refine rt_bip rfl k8_29 ?_
              refine biT_le rfl (n_le (by omega) (by omega)) ?_
              refine rt_ald rfl l0 ?_
              refine ow_gf rfl rfl rfl hlen rfl ?_
              refine rt_bip rfl k8_20 ?_
              refine biF_eq rfl (n_ne (by omega) (by omega) (by omega)) ?_
              refine rt_ald rfl l0 ?_
              refine ow_gf rfl rfl rfl hlen rfl ?_
              refine rt_bip rfl k8_8 ?_
              refine biF_ne rfl (n_ne (by omega) (by omega) (by omega)) ?_
              refine rt_ald rfl l0 ?_
              refine RT_step (pc2 := 72) rfl (fun _ _ => rfl) ?_
              refine ow_gf rfl rfl rfl hlen rfl ?_
              refine rt_ico rfl ki_1 ?_
              refine ba_iadd rfl ?_
              rw [n_add]
              refine ow_pf (l2 := ((180, mcl (Int32.ofNat 0) (Int32.ofNat 0) n lim a pl (km kd) nm sg (Int32.ofNat 0) qm wd td (posn vs nn (o + 1) wi tp)) :: (181, mtl ts) :: [(182, ia nw), (187, lng nz), (202, ia nl)])) rfl rfl rfl rfl rfl hlen rfl rfl ?_
              refine rt_ald rfl l0 ?_
              refine RT_step (pc2 := 82) rfl (fun _ _ => rfl) ?_
              refine ow_gf rfl rfl rfl hlen rfl ?_
              refine rt_ico rfl ki_1 ?_
              refine ba_iadd rfl ?_
              rw [n_add]
              refine ow_pf (l2 := ((180, mcl (Int32.ofNat 0) (Int32.ofNat 0) n lim a pl (km kd) nm sg (Int32.ofNat 0) qm wd td (posn vs nn (o + 1) (wi + 1) tp)) :: (181, mtl ts) :: [(182, ia nw), (187, lng nz), (202, ia nl)])) rfl rfl rfl rfl rfl hlen rfl rfl ?_
              refine rt_ald rfl l0 ?_
              refine ow_iv0 (l2 := ((180, mcl (Int32.ofNat 0) (Int32.ofNat 0) n lim a1 pl1 (km kd1) nm1 sg1 (Int32.ofNat 0) qm1 wd1 td (posn vs nn (o + 1) (wi + 1) tp)) :: (181, mtl ts) :: [(182, ia nw), (187, lng nz), (202, ia nl)])) rfl rfl rfl rfl hlen rfl rfl rfl ((m1 _ (ov_hl hlen) (ov_at rfl (ov_lt hlen (by decide))) (ov_at rfl (ov_lt hlen (by decide)))).up (by omega)) rfl ?_
              refine rt_ico rfl ki_1 ?_
              refine rt_ist rfl (by decide +kernel) ?_
              refine rt_ild rfl (gs_o rfl l1 rfl) ?_
              refine bcT_eq rfl rfl ?_
              refine rt_ild rfl (gs_o rfl l2 rfl) ?_
              refine rt_bip rfl k8_19 ?_
              refine biF_ne rfl (n_ne (by omega) (by omega) (by omega)) ?_
              refine rt_ild rfl (gs_o rfl l2 rfl) ?_
              refine rt_bip rfl k8_25 ?_
              refine biT_ge rfl (n_le (by omega) (by omega)) ?_
              refine rt_ild rfl (gs_o rfl l2 rfl) ?_
              refine rt_bip rfl k8_26 ?_
              refine biT_ge rfl (n_le (by omega) (by omega)) ?_
              refine rt_ald rfl (gs_o rfl l0 rfl) ?_
              refine rt_ild rfl (gs_o rfl l2 rfl) ?_
              refine ow_iv1 (l2 := ((180, mcl (Int32.ofNat 0) (Int32.ofNat 0) n lim a2 pl2 (km kd2) nm2 sg2 (Int32.ofNat 0) qm2 wd2 td2 (posn vs (nn + 1) (o + 1) (wi + 1) nn)) :: (181, mtl ts) :: [(182, ia nw), (187, lng nz), (202, ia nl2)])) rfl rfl rfl rfl hlen rfl rfl rfl ((h.2 H hlen).up (by omega)) rfl ?_
              refine rt_ist rfl (by decide +kernel) ?_
              refine rt_ald rfl (gs_o rfl (gs_o rfl l0 rfl) rfl) ?_
              refine RT_step (pc2 := 168) rfl (fun _ _ => rfl) ?_
              refine ow_gf rfl rfl rfl hlen rfl ?_
              refine rt_ico rfl ki_1 ?_
              refine ba_isub rfl ?_
              rw [n_sub (by omega), Nat.add_sub_cancel]
              refine ow_pf (l2 := ((180, mcl (Int32.ofNat 0) (Int32.ofNat 0) n lim a2 pl2 (km kd2) nm2 sg2 (Int32.ofNat 0) qm2 wd2 td2 (posn vs (nn + 1) (o + 1) wi nn)) :: (181, mtl ts) :: [(182, ia nw), (187, lng nz), (202, ia nl2)])) rfl rfl rfl rfl rfl hlen rfl rfl ?_
              refine rt_ild rfl gs_n ?_
              exact ow_irt rfl rfl rfl
      · have hk1 := w_k1 t (by omega)
        by_cases cf : o = 20 ∨ wi = 8
        · obtain ⟨T, M, f, hx, hm⟩ := s_ref (bs := bs) (ts := ts) (lim := lim) (po := (posn vs nn o wi tp)) (pl := pl) (tk := tk) (td := td) (fp := fp) (plM := qm) t (kk := 4) (by decide) (by decide) (Or.inl (by omega))
          refine Or.inl ⟨T, M, o, s, nn, tp, ws, sgl, nbl, nl, f, sx, ?_⟩
          by_cases co : o = 20
          · refine ⟨fun H hlen => ?_, fun H hlen => ?_⟩
            · refine FR_st2 (l2 := ((1, T) :: (2, bcl bs) :: [(13, dcl13 P Dn lw cl id gl bo), (14, lng pn), (15, ia ri), (16, ia lf), (17, ia wa), (18, ia fo), (19, lng dn), (20, ia ha), (21, ia pa), (22, ia bl), (115, .inr (7, [.int (Int32.ofNat o), .int (Int32.ofNat s), .ref 116, .ref 117, .ref 118, .ref 119])), (116, wrd ws), (117, ia sgl), (118, ia nbl)])) rfl rfl rfl ?_
              refine RT_step (pc2 := 1) rfl (fun _ _ => rfl) ?_
              refine rt_bip rfl k8_40 ?_
              refine ow_iv1 (l2 := ((1, tcl n lim a kd pl 31 le nu tk (Int32.ofNat 0) fp) :: (2, bcl bs) :: [(13, dcl13 P Dn lw cl id gl bo), (14, lng pn), (15, ia ri), (16, ia lf), (17, ia wa), (18, ia fo), (19, lng dn), (20, ia ha), (21, ia pa), (22, ia bl), (115, .inr (7, [.int (Int32.ofNat o), .int (Int32.ofNat s), .ref 116, .ref 117, .ref 118, .ref 119])), (116, wrd ws), (117, ia sgl), (118, ia nbl)])) rfl rfl rfl rfl hlen rfl rfl rfl ((x_isMarkHere (ov_hl hlen) (ov_at rfl (ov_lt hlen (by decide))) hk5 (c := 40) (s := sv) (by decide) sv1 sv2).up (by omega)) rfl ?_
              rw [g]
              refine RT_step (pc2 := 8) rfl (fun _ _ => rfl) ?_
              refine RT_step (pc2 := 10) rfl (fun _ _ => rfl) ?_
              refine bcT_ne rfl rfl ?_
              refine RT_step (pc2 := 14) rfl (fun _ _ => rfl) ?_
              refine ow_gf rfl rfl rfl hlen rfl ?_
              refine ow_is1 (l2 := ((1, tcl n lim a kd pl 31 le nu tk (Int32.ofNat 0) fp) :: (2, bcl bs) :: [(13, dcl13 P Dn lw cl id gl bo), (14, lng pn), (15, ia ri), (16, ia lf), (17, ia wa), (18, ia fo), (19, lng dn), (20, ia ha), (21, ia pa), (22, ia bl), (115, .inr (7, [.int (Int32.ofNat o), .int (Int32.ofNat s), .ref 116, .ref 117, .ref 118, .ref 119])), (116, wrd ws), (117, ia sgl), (118, ia nbl)])) rfl rfl rfl rfl rfl ((x_beg_t (H := ov H ((1, tcl n lim a kd pl 31 le nu tk (Int32.ofNat 0) fp) :: (2, bcl bs) :: [(13, dcl13 P Dn lw cl id gl bo), (14, lng pn), (15, ia ri), (16, ia lf), (17, ia wa), (18, ia fo), (19, lng dn), (20, ia ha), (21, ia pa), (22, ia bl), (115, .inr (7, [.int (Int32.ofNat o), .int (Int32.ofNat s), .ref 116, .ref 117, .ref 118, .ref 119])), (116, wrd ws), (117, ia sgl), (118, ia nbl)])) (by decide)).up (by omega)) rfl ?_
              refine bcF_ne rfl (by decide) ?_
              refine RT_step (pc2 := 30) rfl (fun _ _ => rfl) ?_
              refine ow_gf rfl rfl rfl hlen rfl ?_
              refine rt_bip rfl k8_20 ?_
              refine biT_ge rfl (n_le (by omega) (by omega)) ?_
              refine RT_step (pc2 := 45) rfl (fun _ _ => rfl) ?_
              refine rt_ico rfl ki_4 ?_
              refine ow_iv1 (l2 := ((1, T) :: (2, bcl bs) :: [(13, dcl13 P Dn lw cl id gl bo), (14, lng pn), (15, ia ri), (16, ia lf), (17, ia wa), (18, ia fo), (19, lng dn), (20, ia ha), (21, ia pa), (22, ia bl), (115, .inr (7, [.int (Int32.ofNat o), .int (Int32.ofNat s), .ref 116, .ref 117, .ref 118, .ref 119])), (116, wrd ws), (117, ia sgl), (118, ia nbl)])) rfl rfl rfl rfl hlen rfl rfl rfl ((hx _ (ov_hl hlen) (ov_at rfl (ov_lt hlen (by decide))) (ov_at rfl (ov_lt hlen (by decide)))).up (by omega)) rfl ?_
              exact ow_irt rfl rfl rfl
            · refine FR_st2 (l2 := ((180, M) :: (181, mtl ts) :: [(182, ia nw), (187, lng nz), (202, ia nl)])) rfl rfl rfl ?_
              refine RT_step (pc2 := 1) rfl (fun _ _ => rfl) ?_
              refine rt_bip rfl k8_40 ?_
              refine ow_iv1 (l2 := ((180, mcl (Int32.ofNat 0) (Int32.ofNat 0) n lim a pl (km kd) nm sg (Int32.ofNat 0) qm wd td (posn vs nn o wi tp)) :: (181, mtl ts) :: [(182, ia nw), (187, lng nz), (202, ia nl)])) rfl rfl rfl rfl hlen rfl rfl rfl ((m_isSign (ov_hl hlen) (ov_at rfl (ov_lt hlen (by decide))) hk (c := 40) (s := sv) (by decide) sv1 sv3).up (by omega)) rfl ?_
              refine RT_step (pc2 := 7) rfl (fun _ _ => rfl) ?_
              rw [bq, g]
              refine rt_bip rfl k8_19 ?_
              refine RT_step (pc2 := 10) rfl (fun _ _ => rfl) ?_
              refine m_wl (z := b01 false) hlen hk 11 19 _ rfl rfl rfl rfl (fun L2 l0 l1 l2 => ?_)
              rw [wj_eq t 11 19 rfl, jw] at l2
              refine rt_ild rfl l1 ?_
              refine bcT_ne rfl rfl ?_
              refine rt_ild rfl l2 ?_
              refine rt_bip rfl k8_29 ?_
              refine biT_le rfl (n_le (by omega) (by omega)) ?_
              refine rt_ald rfl l0 ?_
              refine ow_gf rfl rfl rfl hlen rfl ?_
              refine rt_bip rfl k8_20 ?_
              refine biT_eq rfl (n_eq co) ?_
              refine rt_ald rfl l0 ?_
              refine rt_ico rfl ki_4 ?_
              refine ow_iv1 (l2 := ((180, M) :: (181, mtl ts) :: [(182, ia nw), (187, lng nz), (202, ia nl)])) rfl rfl rfl rfl hlen rfl rfl rfl ((hm _ (ov_hl hlen) (ov_at rfl (ov_lt hlen (by decide))) (ov_at rfl (ov_lt hlen (by decide)))).up (by omega)) rfl ?_
              exact ow_irt rfl rfl rfl
          · refine ⟨fun H hlen => ?_, fun H hlen => ?_⟩
            · refine FR_st2 (l2 := ((1, T) :: (2, bcl bs) :: [(13, dcl13 P Dn lw cl id gl bo), (14, lng pn), (15, ia ri), (16, ia lf), (17, ia wa), (18, ia fo), (19, lng dn), (20, ia ha), (21, ia pa), (22, ia bl), (115, .inr (7, [.int (Int32.ofNat o), .int (Int32.ofNat s), .ref 116, .ref 117, .ref 118, .ref 119])), (116, wrd ws), (117, ia sgl), (118, ia nbl)])) rfl rfl rfl ?_
              refine RT_step (pc2 := 1) rfl (fun _ _ => rfl) ?_
              refine rt_bip rfl k8_40 ?_
              refine ow_iv1 (l2 := ((1, tcl n lim a kd pl 31 le nu tk (Int32.ofNat 0) fp) :: (2, bcl bs) :: [(13, dcl13 P Dn lw cl id gl bo), (14, lng pn), (15, ia ri), (16, ia lf), (17, ia wa), (18, ia fo), (19, lng dn), (20, ia ha), (21, ia pa), (22, ia bl), (115, .inr (7, [.int (Int32.ofNat o), .int (Int32.ofNat s), .ref 116, .ref 117, .ref 118, .ref 119])), (116, wrd ws), (117, ia sgl), (118, ia nbl)])) rfl rfl rfl rfl hlen rfl rfl rfl ((x_isMarkHere (ov_hl hlen) (ov_at rfl (ov_lt hlen (by decide))) hk5 (c := 40) (s := sv) (by decide) sv1 sv2).up (by omega)) rfl ?_
              rw [g]
              refine RT_step (pc2 := 8) rfl (fun _ _ => rfl) ?_
              refine RT_step (pc2 := 10) rfl (fun _ _ => rfl) ?_
              refine bcT_ne rfl rfl ?_
              refine RT_step (pc2 := 14) rfl (fun _ _ => rfl) ?_
              refine ow_gf rfl rfl rfl hlen rfl ?_
              refine ow_is1 (l2 := ((1, tcl n lim a kd pl 31 le nu tk (Int32.ofNat 0) fp) :: (2, bcl bs) :: [(13, dcl13 P Dn lw cl id gl bo), (14, lng pn), (15, ia ri), (16, ia lf), (17, ia wa), (18, ia fo), (19, lng dn), (20, ia ha), (21, ia pa), (22, ia bl), (115, .inr (7, [.int (Int32.ofNat o), .int (Int32.ofNat s), .ref 116, .ref 117, .ref 118, .ref 119])), (116, wrd ws), (117, ia sgl), (118, ia nbl)])) rfl rfl rfl rfl rfl ((x_beg_t (H := ov H ((1, tcl n lim a kd pl 31 le nu tk (Int32.ofNat 0) fp) :: (2, bcl bs) :: [(13, dcl13 P Dn lw cl id gl bo), (14, lng pn), (15, ia ri), (16, ia lf), (17, ia wa), (18, ia fo), (19, lng dn), (20, ia ha), (21, ia pa), (22, ia bl), (115, .inr (7, [.int (Int32.ofNat o), .int (Int32.ofNat s), .ref 116, .ref 117, .ref 118, .ref 119])), (116, wrd ws), (117, ia sgl), (118, ia nbl)])) (by decide)).up (by omega)) rfl ?_
              refine bcF_ne rfl (by decide) ?_
              refine RT_step (pc2 := 30) rfl (fun _ _ => rfl) ?_
              refine ow_gf rfl rfl rfl hlen rfl ?_
              refine rt_bip rfl k8_20 ?_
              refine biF_ge rfl (n_nle (by omega) (by omega)) ?_
              refine RT_step (pc2 := 39) rfl (fun _ _ => rfl) ?_
              refine rt_bip rfl k8_8 ?_
              refine biF_le rfl (n_nle (by omega) (by omega)) ?_
              refine RT_step (pc2 := 45) rfl (fun _ _ => rfl) ?_
              refine rt_ico rfl ki_4 ?_
              refine ow_iv1 (l2 := ((1, T) :: (2, bcl bs) :: [(13, dcl13 P Dn lw cl id gl bo), (14, lng pn), (15, ia ri), (16, ia lf), (17, ia wa), (18, ia fo), (19, lng dn), (20, ia ha), (21, ia pa), (22, ia bl), (115, .inr (7, [.int (Int32.ofNat o), .int (Int32.ofNat s), .ref 116, .ref 117, .ref 118, .ref 119])), (116, wrd ws), (117, ia sgl), (118, ia nbl)])) rfl rfl rfl rfl hlen rfl rfl rfl ((hx _ (ov_hl hlen) (ov_at rfl (ov_lt hlen (by decide))) (ov_at rfl (ov_lt hlen (by decide)))).up (by omega)) rfl ?_
              exact ow_irt rfl rfl rfl
            · refine FR_st2 (l2 := ((180, M) :: (181, mtl ts) :: [(182, ia nw), (187, lng nz), (202, ia nl)])) rfl rfl rfl ?_
              refine RT_step (pc2 := 1) rfl (fun _ _ => rfl) ?_
              refine rt_bip rfl k8_40 ?_
              refine ow_iv1 (l2 := ((180, mcl (Int32.ofNat 0) (Int32.ofNat 0) n lim a pl (km kd) nm sg (Int32.ofNat 0) qm wd td (posn vs nn o wi tp)) :: (181, mtl ts) :: [(182, ia nw), (187, lng nz), (202, ia nl)])) rfl rfl rfl rfl hlen rfl rfl rfl ((m_isSign (ov_hl hlen) (ov_at rfl (ov_lt hlen (by decide))) hk (c := 40) (s := sv) (by decide) sv1 sv3).up (by omega)) rfl ?_
              refine RT_step (pc2 := 7) rfl (fun _ _ => rfl) ?_
              rw [bq, g]
              refine rt_bip rfl k8_19 ?_
              refine RT_step (pc2 := 10) rfl (fun _ _ => rfl) ?_
              refine m_wl (z := b01 false) hlen hk 11 19 _ rfl rfl rfl rfl (fun L2 l0 l1 l2 => ?_)
              rw [wj_eq t 11 19 rfl, jw] at l2
              refine rt_ild rfl l1 ?_
              refine bcT_ne rfl rfl ?_
              refine rt_ild rfl l2 ?_
              refine rt_bip rfl k8_29 ?_
              refine biT_le rfl (n_le (by omega) (by omega)) ?_
              refine rt_ald rfl l0 ?_
              refine ow_gf rfl rfl rfl hlen rfl ?_
              refine rt_bip rfl k8_20 ?_
              refine biF_eq rfl (n_ne co (by omega) (by omega)) ?_
              refine rt_ald rfl l0 ?_
              refine ow_gf rfl rfl rfl hlen rfl ?_
              refine rt_bip rfl k8_8 ?_
              refine biT_ne rfl (n_eq (by omega)) ?_
              refine rt_ald rfl l0 ?_
              refine rt_ico rfl ki_4 ?_
              refine ow_iv1 (l2 := ((180, M) :: (181, mtl ts) :: [(182, ia nw), (187, lng nz), (202, ia nl)])) rfl rfl rfl rfl hlen rfl rfl rfl ((hm _ (ov_hl hlen) (ov_at rfl (ov_lt hlen (by decide))) (ov_at rfl (ov_lt hlen (by decide)))).up (by omega)) rfl ?_
              exact ow_irt rfl rfl rfl
        · obtain ⟨T1, M1, c1, x1, m1⟩ := s_adv hB hM hb hn hl (po := (posn vs nn (o + 1) (wi + 1) tp)) (pl := pl) (tk := tk) (td := td) (fp := fp) (plM := qm) t (by omega) (by omega)
          obtain ⟨a1, kd1, pl1, w1, le1, nu1, fp1, nm1, sg1, qm1, wd1, rfl, rfl, t1⟩ := c1
          rcases sm13_115 hB hM hb hn hl (pl := pl1) (tk := tk) (td := td) (fp := fp1) (qm := qm1) (o := o + 1) (nn := nn) (wi := wi + 1) (tp := tp) t1 sx ln (by omega) (by omega) (by omega) (w0 := 31) (j0 := j) (by decide) (by omega) with ⟨T, M, f, h⟩ | ⟨tk2, td2, T, M, s2, ws2, sl2, nb2, nl2, c2, sx2, ln2, h⟩
          · have f0 := f
            obtain ⟨a9, kd9, pl9, w9, le9, nu9, tk9, kk9, am9, fm9, kM9, nm9, sg9, fa9, qm9, wd9, td9, rfl, rfl, f9⟩ := f
            refine Or.inl ⟨tcl n lim a9 kd9 pl9 w9 le9 nu9 tk9 (Int32.ofNat kk9) (Int32.ofNat pl9), mcl (Int32.ofNat 0) (Int32.ofNat 0) n lim am9 fm9 kM9 nm9 sg9 fa9 qm9 wd9 td9 (posn vs nn (o + 1) wi tp), (o + 1), s, nn, tp, ws, sgl, nbl, nl, ⟨a9, kd9, pl9, w9, le9, nu9, tk9, kk9, am9, fm9, kM9, nm9, sg9, fa9, qm9, wd9, td9, rfl, rfl, f9⟩, sx, fun H hlen => ?_, fun H hlen => ?_⟩
            · refine FR_st2 (l2 := ((1, tcl n lim a9 kd9 pl9 w9 le9 nu9 tk9 (Int32.ofNat kk9) (Int32.ofNat pl9)) :: (2, bcl bs) :: [(13, dcl13 P Dn lw cl id gl bo), (14, lng pn), (15, ia ri), (16, ia lf), (17, ia wa), (18, ia fo), (19, lng dn), (20, ia ha), (21, ia pa), (22, ia bl), (115, .inr (7, [.int (Int32.ofNat (o + 1)), .int (Int32.ofNat s), .ref 116, .ref 117, .ref 118, .ref 119])), (116, wrd ws), (117, ia sgl), (118, ia nbl)])) rfl rfl rfl ?_
              refine RT_step (pc2 := 1) rfl (fun _ _ => rfl) ?_
              refine rt_bip rfl k8_40 ?_
              refine ow_iv1 (l2 := ((1, tcl n lim a kd pl 31 le nu tk (Int32.ofNat 0) fp) :: (2, bcl bs) :: [(13, dcl13 P Dn lw cl id gl bo), (14, lng pn), (15, ia ri), (16, ia lf), (17, ia wa), (18, ia fo), (19, lng dn), (20, ia ha), (21, ia pa), (22, ia bl), (115, .inr (7, [.int (Int32.ofNat o), .int (Int32.ofNat s), .ref 116, .ref 117, .ref 118, .ref 119])), (116, wrd ws), (117, ia sgl), (118, ia nbl)])) rfl rfl rfl rfl hlen rfl rfl rfl ((x_isMarkHere (ov_hl hlen) (ov_at rfl (ov_lt hlen (by decide))) hk5 (c := 40) (s := sv) (by decide) sv1 sv2).up (by omega)) rfl ?_
              rw [g]
              refine RT_step (pc2 := 8) rfl (fun _ _ => rfl) ?_
              refine RT_step (pc2 := 10) rfl (fun _ _ => rfl) ?_
              refine bcT_ne rfl rfl ?_
              refine RT_step (pc2 := 14) rfl (fun _ _ => rfl) ?_
              refine ow_gf rfl rfl rfl hlen rfl ?_
              refine ow_is1 (l2 := ((1, tcl n lim a kd pl 31 le nu tk (Int32.ofNat 0) fp) :: (2, bcl bs) :: [(13, dcl13 P Dn lw cl id gl bo), (14, lng pn), (15, ia ri), (16, ia lf), (17, ia wa), (18, ia fo), (19, lng dn), (20, ia ha), (21, ia pa), (22, ia bl), (115, .inr (7, [.int (Int32.ofNat o), .int (Int32.ofNat s), .ref 116, .ref 117, .ref 118, .ref 119])), (116, wrd ws), (117, ia sgl), (118, ia nbl)])) rfl rfl rfl rfl rfl ((x_beg_t (H := ov H ((1, tcl n lim a kd pl 31 le nu tk (Int32.ofNat 0) fp) :: (2, bcl bs) :: [(13, dcl13 P Dn lw cl id gl bo), (14, lng pn), (15, ia ri), (16, ia lf), (17, ia wa), (18, ia fo), (19, lng dn), (20, ia ha), (21, ia pa), (22, ia bl), (115, .inr (7, [.int (Int32.ofNat o), .int (Int32.ofNat s), .ref 116, .ref 117, .ref 118, .ref 119])), (116, wrd ws), (117, ia sgl), (118, ia nbl)])) (by decide)).up (by omega)) rfl ?_
              refine bcF_ne rfl (by decide) ?_
              refine RT_step (pc2 := 30) rfl (fun _ _ => rfl) ?_
              refine ow_gf rfl rfl rfl hlen rfl ?_
              refine rt_bip rfl k8_20 ?_
              refine biF_ge rfl (n_nle (by omega) (by omega)) ?_
              refine RT_step (pc2 := 39) rfl (fun _ _ => rfl) ?_
              refine rt_bip rfl k8_8 ?_
              refine biT_le rfl (n_le (by omega) (by omega)) ?_
              refine RT_step (pc2 := 51) rfl (fun _ _ => rfl) ?_
              refine RT_step (pc2 := 52) rfl (fun _ _ => rfl) ?_
              refine ow_gf rfl rfl rfl hlen rfl ?_
              refine rt_ico rfl ki_1 ?_
              refine ba_iadd rfl ?_
              rw [n_add]
              refine ow_pf (l2 := ((1, tcl n lim a kd pl 31 le nu tk (Int32.ofNat 0) fp) :: (2, bcl bs) :: [(13, dcl13 P Dn lw cl id gl bo), (14, lng pn), (15, ia ri), (16, ia lf), (17, ia wa), (18, ia fo), (19, lng dn), (20, ia ha), (21, ia pa), (22, ia bl), (115, .inr (7, [.int (Int32.ofNat (o + 1)), .int (Int32.ofNat s), .ref 116, .ref 117, .ref 118, .ref 119])), (116, wrd ws), (117, ia sgl), (118, ia nbl)])) rfl rfl rfl rfl rfl hlen rfl rfl ?_
              refine RT_step (pc2 := 61) rfl (fun _ _ => rfl) ?_
              refine ow_gf rfl rfl rfl hlen rfl ?_
              refine RT_step (pc2 := 66) rfl (fun _ _ => rfl) ?_
              refine RT_step (pc2 := 67) rfl (fun _ _ => rfl) ?_
              refine ow_iv0 (l2 := ((1, tcl n lim a1 kd1 pl1 w1 le1 nu1 tk (Int32.ofNat 0) fp1) :: (2, bcl bs) :: [(13, dcl13 P Dn lw cl id gl bo), (14, lng pn), (15, ia ri), (16, ia lf), (17, ia wa), (18, ia fo), (19, lng dn), (20, ia ha), (21, ia pa), (22, ia bl), (115, .inr (7, [.int (Int32.ofNat (o + 1)), .int (Int32.ofNat s), .ref 116, .ref 117, .ref 118, .ref 119])), (116, wrd ws), (117, ia sgl), (118, ia nbl)])) rfl rfl rfl rfl hlen rfl rfl rfl ((x1 _ (ov_hl hlen) (ov_at rfl (ov_lt hlen (by decide))) (ov_at rfl (ov_lt hlen (by decide)))).up (by omega)) rfl ?_
              refine RT_step (pc2 := 72) rfl (fun _ _ => rfl) ?_
              refine bcT_eq rfl rfl ?_
              refine RT_step (pc2 := 105) rfl (fun _ _ => rfl) ?_
              refine RT_step (pc2 := 107) rfl (fun _ _ => rfl) ?_
              refine rt_ord rfl (by decide) rfl ?_
              refine rt_isw rfl (v := 21) (by decide +kernel) ?_
              refine RT_step (pc2 := 177) rfl (fun _ _ => rfl) ?_
              refine RT_step (pc2 := 178) rfl (fun _ _ => rfl) ?_
              refine RT_step (pc2 := 179) rfl (fun _ _ => rfl) ?_
              refine RT_step (pc2 := 181) rfl (fun _ _ => rfl) ?_
              refine ow_iv1 (l2 := ((1, tcl n lim a9 kd9 pl9 w9 le9 nu9 tk9 (Int32.ofNat kk9) (Int32.ofNat pl9)) :: (2, bcl bs) :: [(13, dcl13 P Dn lw cl id gl bo), (14, lng pn), (15, ia ri), (16, ia lf), (17, ia wa), (18, ia fo), (19, lng dn), (20, ia ha), (21, ia pa), (22, ia bl), (115, .inr (7, [.int (Int32.ofNat (o + 1)), .int (Int32.ofNat s), .ref 116, .ref 117, .ref 118, .ref 119])), (116, wrd ws), (117, ia sgl), (118, ia nbl)])) rfl rfl rfl rfl hlen rfl rfl rfl ((h.1 H hlen).up (by omega)) rfl ?_
              exact ow_irt rfl rfl rfl
            · refine FR_st2 (l2 := ((180, mcl (Int32.ofNat 0) (Int32.ofNat 0) n lim am9 fm9 kM9 nm9 sg9 fa9 qm9 wd9 td9 (posn vs nn (o + 1) wi tp)) :: (181, mtl ts) :: [(182, ia nw), (187, lng nz), (202, ia nl)])) rfl rfl rfl ?_
              refine RT_step (pc2 := 1) rfl (fun _ _ => rfl) ?_
              refine rt_bip rfl k8_40 ?_
              refine ow_iv1 (l2 := ((180, mcl (Int32.ofNat 0) (Int32.ofNat 0) n lim a pl (km kd) nm sg (Int32.ofNat 0) qm wd td (posn vs nn o wi tp)) :: (181, mtl ts) :: [(182, ia nw), (187, lng nz), (202, ia nl)])) rfl rfl rfl rfl hlen rfl rfl rfl ((m_isSign (ov_hl hlen) (ov_at rfl (ov_lt hlen (by decide))) hk (c := 40) (s := sv) (by decide) sv1 sv3).up (by omega)) rfl ?_
              refine RT_step (pc2 := 7) rfl (fun _ _ => rfl) ?_
              rw [bq, g]
              refine rt_bip rfl k8_19 ?_
              refine RT_step (pc2 := 10) rfl (fun _ _ => rfl) ?_
              refine m_wl (z := b01 false) hlen hk 11 19 _ rfl rfl rfl rfl (fun L2 l0 l1 l2 => ?_)
              rw [wj_eq t 11 19 rfl, jw] at l2
              refine rt_ild rfl l1 ?_
              refine bcT_ne rfl rfl ?_
              refine rt_ild rfl l2 ?_
              refine rt_bip rfl k8_29 ?_
              refine biT_le rfl (n_le (by omega) (by omega)) ?_
              refine rt_ald rfl l0 ?_
              refine ow_gf rfl rfl rfl hlen rfl ?_
              refine rt_bip rfl k8_20 ?_
              refine biF_eq rfl (n_ne (by omega) (by omega) (by omega)) ?_
              refine rt_ald rfl l0 ?_
              refine ow_gf rfl rfl rfl hlen rfl ?_
              refine rt_bip rfl k8_8 ?_
              refine biF_ne rfl (n_ne (by omega) (by omega) (by omega)) ?_
              refine rt_ald rfl l0 ?_
              refine RT_step (pc2 := 72) rfl (fun _ _ => rfl) ?_
              refine ow_gf rfl rfl rfl hlen rfl ?_
              refine rt_ico rfl ki_1 ?_
              refine ba_iadd rfl ?_
              rw [n_add]
              refine ow_pf (l2 := ((180, mcl (Int32.ofNat 0) (Int32.ofNat 0) n lim a pl (km kd) nm sg (Int32.ofNat 0) qm wd td (posn vs nn (o + 1) wi tp)) :: (181, mtl ts) :: [(182, ia nw), (187, lng nz), (202, ia nl)])) rfl rfl rfl rfl rfl hlen rfl rfl ?_
              refine rt_ald rfl l0 ?_
              refine RT_step (pc2 := 82) rfl (fun _ _ => rfl) ?_
              refine ow_gf rfl rfl rfl hlen rfl ?_
              refine rt_ico rfl ki_1 ?_
              refine ba_iadd rfl ?_
              rw [n_add]
              refine ow_pf (l2 := ((180, mcl (Int32.ofNat 0) (Int32.ofNat 0) n lim a pl (km kd) nm sg (Int32.ofNat 0) qm wd td (posn vs nn (o + 1) (wi + 1) tp)) :: (181, mtl ts) :: [(182, ia nw), (187, lng nz), (202, ia nl)])) rfl rfl rfl rfl rfl hlen rfl rfl ?_
              refine rt_ald rfl l0 ?_
              refine ow_iv0 (l2 := ((180, mcl (Int32.ofNat 0) (Int32.ofNat 0) n lim a1 pl1 (km kd1) nm1 sg1 (Int32.ofNat 0) qm1 wd1 td (posn vs nn (o + 1) (wi + 1) tp)) :: (181, mtl ts) :: [(182, ia nw), (187, lng nz), (202, ia nl)])) rfl rfl rfl rfl hlen rfl rfl rfl ((m1 _ (ov_hl hlen) (ov_at rfl (ov_lt hlen (by decide))) (ov_at rfl (ov_lt hlen (by decide)))).up (by omega)) rfl ?_
              refine rt_ico rfl ki_1 ?_
              refine rt_ist rfl (by decide +kernel) ?_
              refine rt_ild rfl (gs_o rfl l1 rfl) ?_
              refine bcT_eq rfl rfl ?_
              refine rt_ild rfl (gs_o rfl l2 rfl) ?_
              refine rt_bip rfl k8_19 ?_
              refine biF_ne rfl (n_ne (by omega) (by omega) (by omega)) ?_
              refine rt_ild rfl (gs_o rfl l2 rfl) ?_
              refine rt_bip rfl k8_25 ?_
              refine biT_ge rfl (n_le (by omega) (by omega)) ?_
              refine rt_ild rfl (gs_o rfl l2 rfl) ?_
              refine rt_bip rfl k8_26 ?_
              refine biT_ge rfl (n_le (by omega) (by omega)) ?_
              refine rt_ald rfl (gs_o rfl l0 rfl) ?_
              refine rt_ild rfl (gs_o rfl l2 rfl) ?_
              refine ow_iv1 (l2 := ((180, mcl (Int32.ofNat 0) (Int32.ofNat 0) n lim am9 fm9 kM9 nm9 sg9 fa9 qm9 wd9 td9 (posn vs nn (o + 1) (wi + 1) tp)) :: (181, mtl ts) :: [(182, ia nw), (187, lng nz), (202, ia nl)])) rfl rfl rfl rfl hlen rfl rfl rfl ((h.2 H hlen).up (by omega)) rfl ?_
              refine rt_ist rfl (by decide +kernel) ?_
              refine rt_ald rfl (gs_o rfl (gs_o rfl l0 rfl) rfl) ?_
              refine RT_step (pc2 := 168) rfl (fun _ _ => rfl) ?_
              refine ow_gf rfl rfl rfl hlen rfl ?_
              refine rt_ico rfl ki_1 ?_
              refine ba_isub rfl ?_
              rw [n_sub (by omega), Nat.add_sub_cancel]
              refine ow_pf (l2 := ((180, mcl (Int32.ofNat 0) (Int32.ofNat 0) n lim am9 fm9 kM9 nm9 sg9 fa9 qm9 wd9 td9 (posn vs nn (o + 1) wi tp)) :: (181, mtl ts) :: [(182, ia nw), (187, lng nz), (202, ia nl)])) rfl rfl rfl rfl rfl hlen rfl rfl ?_
              refine rt_ild rfl gs_n ?_
              exact ow_irt rfl rfl rfl
          · obtain ⟨a2, kd2, pl2, w2, le2, nu2, fp2, nm2, sg2, qm2, wd2, rfl, rfl, t2⟩ := c2
            refine Or.inr ⟨(k + 1 + 2), tk2, td2, tcl n lim a2 kd2 pl2 w2 le2 nu2 tk2 (Int32.ofNat 0) fp2, mcl (Int32.ofNat 0) (Int32.ofNat 0) n lim a2 pl2 (km kd2) nm2 sg2 (Int32.ofNat 0) qm2 wd2 td2 (posn vs (nn + 1) (o + 1) wi nn), (o + 1), s2, (nn + 1), nn, ws2, sl2, nb2, nl2, (tf_td t2), by omega, by omega, by omega, by omega, ?_, ?_, fun H hlen => ?_, fun H hlen => ?_⟩
            · exact sx2
            · exact ln2
            · refine FR_st2 (l2 := ((1, tcl n lim a2 kd2 pl2 w2 le2 nu2 tk2 (Int32.ofNat 0) fp2) :: (2, bcl bs) :: [(13, dcl13 P Dn lw cl id gl bo), (14, lng pn), (15, ia ri), (16, ia lf), (17, ia wa), (18, ia fo), (19, lng dn), (20, ia ha), (21, ia pa), (22, ia bl), (115, .inr (7, [.int (Int32.ofNat (o + 1)), .int (Int32.ofNat s2), .ref 116, .ref 117, .ref 118, .ref 119])), (116, wrd ws2), (117, ia sl2), (118, ia nb2)])) rfl rfl rfl ?_
              refine RT_step (pc2 := 1) rfl (fun _ _ => rfl) ?_
              refine rt_bip rfl k8_40 ?_
              refine ow_iv1 (l2 := ((1, tcl n lim a kd pl 31 le nu tk (Int32.ofNat 0) fp) :: (2, bcl bs) :: [(13, dcl13 P Dn lw cl id gl bo), (14, lng pn), (15, ia ri), (16, ia lf), (17, ia wa), (18, ia fo), (19, lng dn), (20, ia ha), (21, ia pa), (22, ia bl), (115, .inr (7, [.int (Int32.ofNat o), .int (Int32.ofNat s), .ref 116, .ref 117, .ref 118, .ref 119])), (116, wrd ws), (117, ia sgl), (118, ia nbl)])) rfl rfl rfl rfl hlen rfl rfl rfl ((x_isMarkHere (ov_hl hlen) (ov_at rfl (ov_lt hlen (by decide))) hk5 (c := 40) (s := sv) (by decide) sv1 sv2).up (by omega)) rfl ?_
              rw [g]
              refine RT_step (pc2 := 8) rfl (fun _ _ => rfl) ?_
              refine RT_step (pc2 := 10) rfl (fun _ _ => rfl) ?_
              refine bcT_ne rfl rfl ?_
              refine RT_step (pc2 := 14) rfl (fun _ _ => rfl) ?_
              refine ow_gf rfl rfl rfl hlen rfl ?_
              refine ow_is1 (l2 := ((1, tcl n lim a kd pl 31 le nu tk (Int32.ofNat 0) fp) :: (2, bcl bs) :: [(13, dcl13 P Dn lw cl id gl bo), (14, lng pn), (15, ia ri), (16, ia lf), (17, ia wa), (18, ia fo), (19, lng dn), (20, ia ha), (21, ia pa), (22, ia bl), (115, .inr (7, [.int (Int32.ofNat o), .int (Int32.ofNat s), .ref 116, .ref 117, .ref 118, .ref 119])), (116, wrd ws), (117, ia sgl), (118, ia nbl)])) rfl rfl rfl rfl rfl ((x_beg_t (H := ov H ((1, tcl n lim a kd pl 31 le nu tk (Int32.ofNat 0) fp) :: (2, bcl bs) :: [(13, dcl13 P Dn lw cl id gl bo), (14, lng pn), (15, ia ri), (16, ia lf), (17, ia wa), (18, ia fo), (19, lng dn), (20, ia ha), (21, ia pa), (22, ia bl), (115, .inr (7, [.int (Int32.ofNat o), .int (Int32.ofNat s), .ref 116, .ref 117, .ref 118, .ref 119])), (116, wrd ws), (117, ia sgl), (118, ia nbl)])) (by decide)).up (by omega)) rfl ?_
              refine bcF_ne rfl (by decide) ?_
              refine RT_step (pc2 := 30) rfl (fun _ _ => rfl) ?_
              refine ow_gf rfl rfl rfl hlen rfl ?_
              refine rt_bip rfl k8_20 ?_
              refine biF_ge rfl (n_nle (by omega) (by omega)) ?_
              refine RT_step (pc2 := 39) rfl (fun _ _ => rfl) ?_
              refine rt_bip rfl k8_8 ?_
              refine biT_le rfl (n_le (by omega) (by omega)) ?_
              refine RT_step (pc2 := 51) rfl (fun _ _ => rfl) ?_
              refine RT_step (pc2 := 52) rfl (fun _ _ => rfl) ?_
              refine ow_gf rfl rfl rfl hlen rfl ?_
              refine rt_ico rfl ki_1 ?_
              refine ba_iadd rfl ?_
              rw [n_add]
              refine ow_pf (l2 := ((1, tcl n lim a kd pl 31 le nu tk (Int32.ofNat 0) fp) :: (2, bcl bs) :: [(13, dcl13 P Dn lw cl id gl bo), (14, lng pn), (15, ia ri), (16, ia lf), (17, ia wa), (18, ia fo), (19, lng dn), (20, ia ha), (21, ia pa), (22, ia bl), (115, .inr (7, [.int (Int32.ofNat (o + 1)), .int (Int32.ofNat s), .ref 116, .ref 117, .ref 118, .ref 119])), (116, wrd ws), (117, ia sgl), (118, ia nbl)])) rfl rfl rfl rfl rfl hlen rfl rfl ?_
              refine RT_step (pc2 := 61) rfl (fun _ _ => rfl) ?_
              refine ow_gf rfl rfl rfl hlen rfl ?_
              refine RT_step (pc2 := 66) rfl (fun _ _ => rfl) ?_
              refine RT_step (pc2 := 67) rfl (fun _ _ => rfl) ?_
              refine ow_iv0 (l2 := ((1, tcl n lim a1 kd1 pl1 w1 le1 nu1 tk (Int32.ofNat 0) fp1) :: (2, bcl bs) :: [(13, dcl13 P Dn lw cl id gl bo), (14, lng pn), (15, ia ri), (16, ia lf), (17, ia wa), (18, ia fo), (19, lng dn), (20, ia ha), (21, ia pa), (22, ia bl), (115, .inr (7, [.int (Int32.ofNat (o + 1)), .int (Int32.ofNat s), .ref 116, .ref 117, .ref 118, .ref 119])), (116, wrd ws), (117, ia sgl), (118, ia nbl)])) rfl rfl rfl rfl hlen rfl rfl rfl ((x1 _ (ov_hl hlen) (ov_at rfl (ov_lt hlen (by decide))) (ov_at rfl (ov_lt hlen (by decide)))).up (by omega)) rfl ?_
              refine RT_step (pc2 := 72) rfl (fun _ _ => rfl) ?_
              refine bcT_eq rfl rfl ?_
              refine RT_step (pc2 := 105) rfl (fun _ _ => rfl) ?_
              refine RT_step (pc2 := 107) rfl (fun _ _ => rfl) ?_
              refine rt_ord rfl (by decide) rfl ?_
              refine rt_isw rfl (v := 21) (by decide +kernel) ?_
              refine RT_step (pc2 := 177) rfl (fun _ _ => rfl) ?_
              refine RT_step (pc2 := 178) rfl (fun _ _ => rfl) ?_
              refine RT_step (pc2 := 179) rfl (fun _ _ => rfl) ?_
              refine RT_step (pc2 := 181) rfl (fun _ _ => rfl) ?_
              refine ow_iv1 (l2 := ((1, tcl n lim a2 kd2 pl2 w2 le2 nu2 tk2 (Int32.ofNat 0) fp2) :: (2, bcl bs) :: [(13, dcl13 P Dn lw cl id gl bo), (14, lng pn), (15, ia ri), (16, ia lf), (17, ia wa), (18, ia fo), (19, lng dn), (20, ia ha), (21, ia pa), (22, ia bl), (115, .inr (7, [.int (Int32.ofNat (o + 1)), .int (Int32.ofNat s2), .ref 116, .ref 117, .ref 118, .ref 119])), (116, wrd ws2), (117, ia sl2), (118, ia nb2)])) rfl rfl rfl rfl hlen rfl rfl rfl ((h.1 H hlen).up (by omega)) rfl ?_
              exact ow_irt rfl rfl rfl
            · refine FR_st2 (l2 := ((180, mcl (Int32.ofNat 0) (Int32.ofNat 0) n lim a2 pl2 (km kd2) nm2 sg2 (Int32.ofNat 0) qm2 wd2 td2 (posn vs (nn + 1) (o + 1) wi nn)) :: (181, mtl ts) :: [(182, ia nw), (187, lng nz), (202, ia nl2)])) rfl rfl rfl ?_
              refine RT_step (pc2 := 1) rfl (fun _ _ => rfl) ?_
              refine rt_bip rfl k8_40 ?_
              refine ow_iv1 (l2 := ((180, mcl (Int32.ofNat 0) (Int32.ofNat 0) n lim a pl (km kd) nm sg (Int32.ofNat 0) qm wd td (posn vs nn o wi tp)) :: (181, mtl ts) :: [(182, ia nw), (187, lng nz), (202, ia nl)])) rfl rfl rfl rfl hlen rfl rfl rfl ((m_isSign (ov_hl hlen) (ov_at rfl (ov_lt hlen (by decide))) hk (c := 40) (s := sv) (by decide) sv1 sv3).up (by omega)) rfl ?_
              refine RT_step (pc2 := 7) rfl (fun _ _ => rfl) ?_
              rw [bq, g]
              refine rt_bip rfl k8_19 ?_
              refine RT_step (pc2 := 10) rfl (fun _ _ => rfl) ?_
              refine m_wl (z := b01 false) hlen hk 11 19 _ rfl rfl rfl rfl (fun L2 l0 l1 l2 => ?_)
              rw [wj_eq t 11 19 rfl, jw] at l2
              refine rt_ild rfl l1 ?_
              refine bcT_ne rfl rfl ?_
              refine rt_ild rfl l2 ?_
              refine rt_bip rfl k8_29 ?_
              refine biT_le rfl (n_le (by omega) (by omega)) ?_
              refine rt_ald rfl l0 ?_
              refine ow_gf rfl rfl rfl hlen rfl ?_
              refine rt_bip rfl k8_20 ?_
              refine biF_eq rfl (n_ne (by omega) (by omega) (by omega)) ?_
              refine rt_ald rfl l0 ?_
              refine ow_gf rfl rfl rfl hlen rfl ?_
              refine rt_bip rfl k8_8 ?_
              refine biF_ne rfl (n_ne (by omega) (by omega) (by omega)) ?_
              refine rt_ald rfl l0 ?_
              refine RT_step (pc2 := 72) rfl (fun _ _ => rfl) ?_
              refine ow_gf rfl rfl rfl hlen rfl ?_
              refine rt_ico rfl ki_1 ?_
              refine ba_iadd rfl ?_
              rw [n_add]
              refine ow_pf (l2 := ((180, mcl (Int32.ofNat 0) (Int32.ofNat 0) n lim a pl (km kd) nm sg (Int32.ofNat 0) qm wd td (posn vs nn (o + 1) wi tp)) :: (181, mtl ts) :: [(182, ia nw), (187, lng nz), (202, ia nl)])) rfl rfl rfl rfl rfl hlen rfl rfl ?_
              refine rt_ald rfl l0 ?_
              refine RT_step (pc2 := 82) rfl (fun _ _ => rfl) ?_
              refine ow_gf rfl rfl rfl hlen rfl ?_
              refine rt_ico rfl ki_1 ?_
              refine ba_iadd rfl ?_
              rw [n_add]
              refine ow_pf (l2 := ((180, mcl (Int32.ofNat 0) (Int32.ofNat 0) n lim a pl (km kd) nm sg (Int32.ofNat 0) qm wd td (posn vs nn (o + 1) (wi + 1) tp)) :: (181, mtl ts) :: [(182, ia nw), (187, lng nz), (202, ia nl)])) rfl rfl rfl rfl rfl hlen rfl rfl ?_
              refine rt_ald rfl l0 ?_
              refine ow_iv0 (l2 := ((180, mcl (Int32.ofNat 0) (Int32.ofNat 0) n lim a1 pl1 (km kd1) nm1 sg1 (Int32.ofNat 0) qm1 wd1 td (posn vs nn (o + 1) (wi + 1) tp)) :: (181, mtl ts) :: [(182, ia nw), (187, lng nz), (202, ia nl)])) rfl rfl rfl rfl hlen rfl rfl rfl ((m1 _ (ov_hl hlen) (ov_at rfl (ov_lt hlen (by decide))) (ov_at rfl (ov_lt hlen (by decide)))).up (by omega)) rfl ?_
              refine rt_ico rfl ki_1 ?_
              refine rt_ist rfl (by decide +kernel) ?_
              refine rt_ild rfl (gs_o rfl l1 rfl) ?_
              refine bcT_eq rfl rfl ?_
              refine rt_ild rfl (gs_o rfl l2 rfl) ?_
              refine rt_bip rfl k8_19 ?_
              refine biF_ne rfl (n_ne (by omega) (by omega) (by omega)) ?_
              refine rt_ild rfl (gs_o rfl l2 rfl) ?_
              refine rt_bip rfl k8_25 ?_
              refine biT_ge rfl (n_le (by omega) (by omega)) ?_
              refine rt_ild rfl (gs_o rfl l2 rfl) ?_
              refine rt_bip rfl k8_26 ?_
              refine biT_ge rfl (n_le (by omega) (by omega)) ?_
              refine rt_ald rfl (gs_o rfl l0 rfl) ?_
              refine rt_ild rfl (gs_o rfl l2 rfl) ?_
              refine ow_iv1 (l2 := ((180, mcl (Int32.ofNat 0) (Int32.ofNat 0) n lim a2 pl2 (km kd2) nm2 sg2 (Int32.ofNat 0) qm2 wd2 td2 (posn vs (nn + 1) (o + 1) (wi + 1) nn)) :: (181, mtl ts) :: [(182, ia nw), (187, lng nz), (202, ia nl2)])) rfl rfl rfl rfl hlen rfl rfl rfl ((h.2 H hlen).up (by omega)) rfl ?_
              refine rt_ist rfl (by decide +kernel) ?_
              refine rt_ald rfl (gs_o rfl (gs_o rfl l0 rfl) rfl) ?_
              refine RT_step (pc2 := 168) rfl (fun _ _ => rfl) ?_
              refine ow_gf rfl rfl rfl hlen rfl ?_
              refine rt_ico rfl ki_1 ?_
              refine ba_isub rfl ?_
              rw [n_sub (by omega), Nat.add_sub_cancel]
              refine ow_pf (l2 := ((180, mcl (Int32.ofNat 0) (Int32.ofNat 0) n lim a2 pl2 (km kd2) nm2 sg2 (Int32.ofNat 0) qm2 wd2 td2 (posn vs (nn + 1) (o + 1) wi nn)) :: (181, mtl ts) :: [(182, ia nw), (187, lng nz), (202, ia nl2)])) rfl rfl rfl rfl rfl hlen rfl rfl ?_
              refine rt_ild rfl gs_n ?_
              exact ow_irt rfl rfl rfl
    · rcases cw with rfl | rfl | rfl | rfl | rfl
      · have hk1 := w_k1 t (by omega)
        by_cases cf : o = 20 ∨ wi = 8
        · obtain ⟨T, M, f, hx, hm⟩ := s_ref (bs := bs) (ts := ts) (lim := lim) (po := (posn vs nn o wi tp)) (pl := pl) (tk := tk) (td := td) (fp := fp) (plM := qm) t (kk := 4) (by decide) (by decide) (Or.inl (by omega))
          refine Or.inl ⟨T, M, o, s, nn, tp, ws, sgl, nbl, nl, f, sx, ?_⟩
          by_cases co : o = 20
          · refine ⟨fun H hlen => ?_, fun H hlen => ?_⟩
            · refine FR_st2 (l2 := ((1, T) :: (2, bcl bs) :: [(13, dcl13 P Dn lw cl id gl bo), (14, lng pn), (15, ia ri), (16, ia lf), (17, ia wa), (18, ia fo), (19, lng dn), (20, ia ha), (21, ia pa), (22, ia bl), (115, .inr (7, [.int (Int32.ofNat o), .int (Int32.ofNat s), .ref 116, .ref 117, .ref 118, .ref 119])), (116, wrd ws), (117, ia sgl), (118, ia nbl)])) rfl rfl rfl ?_
              refine RT_step (pc2 := 1) rfl (fun _ _ => rfl) ?_
              refine rt_bip rfl k8_40 ?_
              refine ow_iv1 (l2 := ((1, tcl n lim a kd pl 23 le nu tk (Int32.ofNat 0) fp) :: (2, bcl bs) :: [(13, dcl13 P Dn lw cl id gl bo), (14, lng pn), (15, ia ri), (16, ia lf), (17, ia wa), (18, ia fo), (19, lng dn), (20, ia ha), (21, ia pa), (22, ia bl), (115, .inr (7, [.int (Int32.ofNat o), .int (Int32.ofNat s), .ref 116, .ref 117, .ref 118, .ref 119])), (116, wrd ws), (117, ia sgl), (118, ia nbl)])) rfl rfl rfl rfl hlen rfl rfl rfl ((x_isMarkHere (ov_hl hlen) (ov_at rfl (ov_lt hlen (by decide))) hk5 (c := 40) (s := sv) (by decide) sv1 sv2).up (by omega)) rfl ?_
              rw [g]
              refine RT_step (pc2 := 8) rfl (fun _ _ => rfl) ?_
              refine RT_step (pc2 := 10) rfl (fun _ _ => rfl) ?_
              refine bcT_ne rfl rfl ?_
              refine RT_step (pc2 := 14) rfl (fun _ _ => rfl) ?_
              refine ow_gf rfl rfl rfl hlen rfl ?_
              refine ow_is1 (l2 := ((1, tcl n lim a kd pl 23 le nu tk (Int32.ofNat 0) fp) :: (2, bcl bs) :: [(13, dcl13 P Dn lw cl id gl bo), (14, lng pn), (15, ia ri), (16, ia lf), (17, ia wa), (18, ia fo), (19, lng dn), (20, ia ha), (21, ia pa), (22, ia bl), (115, .inr (7, [.int (Int32.ofNat o), .int (Int32.ofNat s), .ref 116, .ref 117, .ref 118, .ref 119])), (116, wrd ws), (117, ia sgl), (118, ia nbl)])) rfl rfl rfl rfl rfl ((x_beg_t (H := ov H ((1, tcl n lim a kd pl 23 le nu tk (Int32.ofNat 0) fp) :: (2, bcl bs) :: [(13, dcl13 P Dn lw cl id gl bo), (14, lng pn), (15, ia ri), (16, ia lf), (17, ia wa), (18, ia fo), (19, lng dn), (20, ia ha), (21, ia pa), (22, ia bl), (115, .inr (7, [.int (Int32.ofNat o), .int (Int32.ofNat s), .ref 116, .ref 117, .ref 118, .ref 119])), (116, wrd ws), (117, ia sgl), (118, ia nbl)])) (by decide)).up (by omega)) rfl ?_
              refine bcF_ne rfl (by decide) ?_
              refine RT_step (pc2 := 30) rfl (fun _ _ => rfl) ?_
              refine ow_gf rfl rfl rfl hlen rfl ?_
              refine rt_bip rfl k8_20 ?_
              refine biT_ge rfl (n_le (by omega) (by omega)) ?_
              refine RT_step (pc2 := 45) rfl (fun _ _ => rfl) ?_
              refine rt_ico rfl ki_4 ?_
              refine ow_iv1 (l2 := ((1, T) :: (2, bcl bs) :: [(13, dcl13 P Dn lw cl id gl bo), (14, lng pn), (15, ia ri), (16, ia lf), (17, ia wa), (18, ia fo), (19, lng dn), (20, ia ha), (21, ia pa), (22, ia bl), (115, .inr (7, [.int (Int32.ofNat o), .int (Int32.ofNat s), .ref 116, .ref 117, .ref 118, .ref 119])), (116, wrd ws), (117, ia sgl), (118, ia nbl)])) rfl rfl rfl rfl hlen rfl rfl rfl ((hx _ (ov_hl hlen) (ov_at rfl (ov_lt hlen (by decide))) (ov_at rfl (ov_lt hlen (by decide)))).up (by omega)) rfl ?_
              exact ow_irt rfl rfl rfl
            · refine FR_st2 (l2 := ((180, M) :: (181, mtl ts) :: [(182, ia nw), (187, lng nz), (202, ia nl)])) rfl rfl rfl ?_
              refine RT_step (pc2 := 1) rfl (fun _ _ => rfl) ?_
              refine rt_bip rfl k8_40 ?_
              refine ow_iv1 (l2 := ((180, mcl (Int32.ofNat 0) (Int32.ofNat 0) n lim a pl (km kd) nm sg (Int32.ofNat 0) qm wd td (posn vs nn o wi tp)) :: (181, mtl ts) :: [(182, ia nw), (187, lng nz), (202, ia nl)])) rfl rfl rfl rfl hlen rfl rfl rfl ((m_isSign (ov_hl hlen) (ov_at rfl (ov_lt hlen (by decide))) hk (c := 40) (s := sv) (by decide) sv1 sv3).up (by omega)) rfl ?_
              refine RT_step (pc2 := 7) rfl (fun _ _ => rfl) ?_
              rw [bq, g]
              refine rt_bip rfl k8_19 ?_
              refine RT_step (pc2 := 10) rfl (fun _ _ => rfl) ?_
              refine m_wl (z := b01 false) hlen hk 11 19 _ rfl rfl rfl rfl (fun L2 l0 l1 l2 => ?_)
              rw [wj_eq t 11 19 rfl, jw] at l2
              refine rt_ild rfl l1 ?_
              refine bcT_ne rfl rfl ?_
              refine rt_ild rfl l2 ?_
              refine rt_bip rfl k8_29 ?_
              refine biT_le rfl (n_le (by omega) (by omega)) ?_
              refine rt_ald rfl l0 ?_
              refine ow_gf rfl rfl rfl hlen rfl ?_
              refine rt_bip rfl k8_20 ?_
              refine biT_eq rfl (n_eq co) ?_
              refine rt_ald rfl l0 ?_
              refine rt_ico rfl ki_4 ?_
              refine ow_iv1 (l2 := ((180, M) :: (181, mtl ts) :: [(182, ia nw), (187, lng nz), (202, ia nl)])) rfl rfl rfl rfl hlen rfl rfl rfl ((hm _ (ov_hl hlen) (ov_at rfl (ov_lt hlen (by decide))) (ov_at rfl (ov_lt hlen (by decide)))).up (by omega)) rfl ?_
              exact ow_irt rfl rfl rfl
          · refine ⟨fun H hlen => ?_, fun H hlen => ?_⟩
            · refine FR_st2 (l2 := ((1, T) :: (2, bcl bs) :: [(13, dcl13 P Dn lw cl id gl bo), (14, lng pn), (15, ia ri), (16, ia lf), (17, ia wa), (18, ia fo), (19, lng dn), (20, ia ha), (21, ia pa), (22, ia bl), (115, .inr (7, [.int (Int32.ofNat o), .int (Int32.ofNat s), .ref 116, .ref 117, .ref 118, .ref 119])), (116, wrd ws), (117, ia sgl), (118, ia nbl)])) rfl rfl rfl ?_
              refine RT_step (pc2 := 1) rfl (fun _ _ => rfl) ?_
              refine rt_bip rfl k8_40 ?_
              refine ow_iv1 (l2 := ((1, tcl n lim a kd pl 23 le nu tk (Int32.ofNat 0) fp) :: (2, bcl bs) :: [(13, dcl13 P Dn lw cl id gl bo), (14, lng pn), (15, ia ri), (16, ia lf), (17, ia wa), (18, ia fo), (19, lng dn), (20, ia ha), (21, ia pa), (22, ia bl), (115, .inr (7, [.int (Int32.ofNat o), .int (Int32.ofNat s), .ref 116, .ref 117, .ref 118, .ref 119])), (116, wrd ws), (117, ia sgl), (118, ia nbl)])) rfl rfl rfl rfl hlen rfl rfl rfl ((x_isMarkHere (ov_hl hlen) (ov_at rfl (ov_lt hlen (by decide))) hk5 (c := 40) (s := sv) (by decide) sv1 sv2).up (by omega)) rfl ?_
              rw [g]
              refine RT_step (pc2 := 8) rfl (fun _ _ => rfl) ?_
              refine RT_step (pc2 := 10) rfl (fun _ _ => rfl) ?_
              refine bcT_ne rfl rfl ?_
              refine RT_step (pc2 := 14) rfl (fun _ _ => rfl) ?_
              refine ow_gf rfl rfl rfl hlen rfl ?_
              refine ow_is1 (l2 := ((1, tcl n lim a kd pl 23 le nu tk (Int32.ofNat 0) fp) :: (2, bcl bs) :: [(13, dcl13 P Dn lw cl id gl bo), (14, lng pn), (15, ia ri), (16, ia lf), (17, ia wa), (18, ia fo), (19, lng dn), (20, ia ha), (21, ia pa), (22, ia bl), (115, .inr (7, [.int (Int32.ofNat o), .int (Int32.ofNat s), .ref 116, .ref 117, .ref 118, .ref 119])), (116, wrd ws), (117, ia sgl), (118, ia nbl)])) rfl rfl rfl rfl rfl ((x_beg_t (H := ov H ((1, tcl n lim a kd pl 23 le nu tk (Int32.ofNat 0) fp) :: (2, bcl bs) :: [(13, dcl13 P Dn lw cl id gl bo), (14, lng pn), (15, ia ri), (16, ia lf), (17, ia wa), (18, ia fo), (19, lng dn), (20, ia ha), (21, ia pa), (22, ia bl), (115, .inr (7, [.int (Int32.ofNat o), .int (Int32.ofNat s), .ref 116, .ref 117, .ref 118, .ref 119])), (116, wrd ws), (117, ia sgl), (118, ia nbl)])) (by decide)).up (by omega)) rfl ?_
              refine bcF_ne rfl (by decide) ?_
              refine RT_step (pc2 := 30) rfl (fun _ _ => rfl) ?_
              refine ow_gf rfl rfl rfl hlen rfl ?_
              refine rt_bip rfl k8_20 ?_
              refine biF_ge rfl (n_nle (by omega) (by omega)) ?_
              refine RT_step (pc2 := 39) rfl (fun _ _ => rfl) ?_
              refine rt_bip rfl k8_8 ?_
              refine biF_le rfl (n_nle (by omega) (by omega)) ?_
              refine RT_step (pc2 := 45) rfl (fun _ _ => rfl) ?_
              refine rt_ico rfl ki_4 ?_
              refine ow_iv1 (l2 := ((1, T) :: (2, bcl bs) :: [(13, dcl13 P Dn lw cl id gl bo), (14, lng pn), (15, ia ri), (16, ia lf), (17, ia wa), (18, ia fo), (19, lng dn), (20, ia ha), (21, ia pa), (22, ia bl), (115, .inr (7, [.int (Int32.ofNat o), .int (Int32.ofNat s), .ref 116, .ref 117, .ref 118, .ref 119])), (116, wrd ws), (117, ia sgl), (118, ia nbl)])) rfl rfl rfl rfl hlen rfl rfl rfl ((hx _ (ov_hl hlen) (ov_at rfl (ov_lt hlen (by decide))) (ov_at rfl (ov_lt hlen (by decide)))).up (by omega)) rfl ?_
              exact ow_irt rfl rfl rfl
            · refine FR_st2 (l2 := ((180, M) :: (181, mtl ts) :: [(182, ia nw), (187, lng nz), (202, ia nl)])) rfl rfl rfl ?_
              refine RT_step (pc2 := 1) rfl (fun _ _ => rfl) ?_
              refine rt_bip rfl k8_40 ?_
              refine ow_iv1 (l2 := ((180, mcl (Int32.ofNat 0) (Int32.ofNat 0) n lim a pl (km kd) nm sg (Int32.ofNat 0) qm wd td (posn vs nn o wi tp)) :: (181, mtl ts) :: [(182, ia nw), (187, lng nz), (202, ia nl)])) rfl rfl rfl rfl hlen rfl rfl rfl ((m_isSign (ov_hl hlen) (ov_at rfl (ov_lt hlen (by decide))) hk (c := 40) (s := sv) (by decide) sv1 sv3).up (by omega)) rfl ?_
              refine RT_step (pc2 := 7) rfl (fun _ _ => rfl) ?_
              rw [bq, g]
              refine rt_bip rfl k8_19 ?_
              refine RT_step (pc2 := 10) rfl (fun _ _ => rfl) ?_
              refine m_wl (z := b01 false) hlen hk 11 19 _ rfl rfl rfl rfl (fun L2 l0 l1 l2 => ?_)
              rw [wj_eq t 11 19 rfl, jw] at l2
              refine rt_ild rfl l1 ?_
              refine bcT_ne rfl rfl ?_
              refine rt_ild rfl l2 ?_
              refine rt_bip rfl k8_29 ?_
              refine biT_le rfl (n_le (by omega) (by omega)) ?_
              refine rt_ald rfl l0 ?_
              refine ow_gf rfl rfl rfl hlen rfl ?_
              refine rt_bip rfl k8_20 ?_
              refine biF_eq rfl (n_ne co (by omega) (by omega)) ?_
              refine rt_ald rfl l0 ?_
              refine ow_gf rfl rfl rfl hlen rfl ?_
              refine rt_bip rfl k8_8 ?_
              refine biT_ne rfl (n_eq (by omega)) ?_
              refine rt_ald rfl l0 ?_
              refine rt_ico rfl ki_4 ?_
              refine ow_iv1 (l2 := ((180, M) :: (181, mtl ts) :: [(182, ia nw), (187, lng nz), (202, ia nl)])) rfl rfl rfl rfl hlen rfl rfl rfl ((hm _ (ov_hl hlen) (ov_at rfl (ov_lt hlen (by decide))) (ov_at rfl (ov_lt hlen (by decide)))).up (by omega)) rfl ?_
              exact ow_irt rfl rfl rfl
        · obtain ⟨T1, M1, c1, x1, m1⟩ := s_adv hB hM hb hn hl (po := (posn vs nn (o + 1) (wi + 1) tp)) (pl := pl) (tk := tk) (td := td) (fp := fp) (plM := qm) t (by omega) (by omega)
          obtain ⟨a1, kd1, pl1, w1, le1, nu1, fp1, nm1, sg1, qm1, wd1, rfl, rfl, t1⟩ := c1
          obtain ⟨s2, ws2, sl2, nb2, sx2, hadd⟩ := sx_add115 sx (w := 23) (by decide) (Int32.ofNat 0) (Int32.ofNat 0)
          refine Or.inr ⟨(k + 1), tk, td, tcl n lim a1 kd1 pl1 w1 le1 nu1 tk (Int32.ofNat 0) fp1, mcl (Int32.ofNat 0) (Int32.ofNat 0) n lim a1 pl1 (km kd1) nm1 sg1 (Int32.ofNat 0) qm1 wd1 td (posn vs (nn + 1) (o + 1) wi nn), (o + 1), s2, (nn + 1), nn, ws2, sl2, nb2, ((((nl.set (4 * nn) (Int32.ofNat (50 + j))).set (4 * nn + 1) (Int32.ofNat 0)).set (4 * nn + 2) (Int32.ofNat 0)).set (4 * nn + 3) (Int32.ofNat 0)), (tf_td t1), by omega, by omega, by omega, by omega, ?_, ?_, fun H hlen => ?_, fun H hlen => ?_⟩
          · exact sx2
          · simp only [List.length_set]; exact ln
          · refine FR_st2 (l2 := ((1, tcl n lim a1 kd1 pl1 w1 le1 nu1 tk (Int32.ofNat 0) fp1) :: (2, bcl bs) :: [(13, dcl13 P Dn lw cl id gl bo), (14, lng pn), (15, ia ri), (16, ia lf), (17, ia wa), (18, ia fo), (19, lng dn), (20, ia ha), (21, ia pa), (22, ia bl), (115, .inr (7, [.int (Int32.ofNat (o + 1)), .int (Int32.ofNat s2), .ref 116, .ref 117, .ref 118, .ref 119])), (116, wrd ws2), (117, ia sl2), (118, ia nb2)])) rfl rfl rfl ?_
            refine RT_step (pc2 := 1) rfl (fun _ _ => rfl) ?_
            refine rt_bip rfl k8_40 ?_
            refine ow_iv1 (l2 := ((1, tcl n lim a kd pl 23 le nu tk (Int32.ofNat 0) fp) :: (2, bcl bs) :: [(13, dcl13 P Dn lw cl id gl bo), (14, lng pn), (15, ia ri), (16, ia lf), (17, ia wa), (18, ia fo), (19, lng dn), (20, ia ha), (21, ia pa), (22, ia bl), (115, .inr (7, [.int (Int32.ofNat o), .int (Int32.ofNat s), .ref 116, .ref 117, .ref 118, .ref 119])), (116, wrd ws), (117, ia sgl), (118, ia nbl)])) rfl rfl rfl rfl hlen rfl rfl rfl ((x_isMarkHere (ov_hl hlen) (ov_at rfl (ov_lt hlen (by decide))) hk5 (c := 40) (s := sv) (by decide) sv1 sv2).up (by omega)) rfl ?_
            rw [g]
            refine RT_step (pc2 := 8) rfl (fun _ _ => rfl) ?_
            refine RT_step (pc2 := 10) rfl (fun _ _ => rfl) ?_
            refine bcT_ne rfl rfl ?_
            refine RT_step (pc2 := 14) rfl (fun _ _ => rfl) ?_
            refine ow_gf rfl rfl rfl hlen rfl ?_
            refine ow_is1 (l2 := ((1, tcl n lim a kd pl 23 le nu tk (Int32.ofNat 0) fp) :: (2, bcl bs) :: [(13, dcl13 P Dn lw cl id gl bo), (14, lng pn), (15, ia ri), (16, ia lf), (17, ia wa), (18, ia fo), (19, lng dn), (20, ia ha), (21, ia pa), (22, ia bl), (115, .inr (7, [.int (Int32.ofNat o), .int (Int32.ofNat s), .ref 116, .ref 117, .ref 118, .ref 119])), (116, wrd ws), (117, ia sgl), (118, ia nbl)])) rfl rfl rfl rfl rfl ((x_beg_t (H := ov H ((1, tcl n lim a kd pl 23 le nu tk (Int32.ofNat 0) fp) :: (2, bcl bs) :: [(13, dcl13 P Dn lw cl id gl bo), (14, lng pn), (15, ia ri), (16, ia lf), (17, ia wa), (18, ia fo), (19, lng dn), (20, ia ha), (21, ia pa), (22, ia bl), (115, .inr (7, [.int (Int32.ofNat o), .int (Int32.ofNat s), .ref 116, .ref 117, .ref 118, .ref 119])), (116, wrd ws), (117, ia sgl), (118, ia nbl)])) (by decide)).up (by omega)) rfl ?_
            refine bcF_ne rfl (by decide) ?_
            refine RT_step (pc2 := 30) rfl (fun _ _ => rfl) ?_
            refine ow_gf rfl rfl rfl hlen rfl ?_
            refine rt_bip rfl k8_20 ?_
            refine biF_ge rfl (n_nle (by omega) (by omega)) ?_
            refine RT_step (pc2 := 39) rfl (fun _ _ => rfl) ?_
            refine rt_bip rfl k8_8 ?_
            refine biT_le rfl (n_le (by omega) (by omega)) ?_
            refine RT_step (pc2 := 51) rfl (fun _ _ => rfl) ?_
            refine RT_step (pc2 := 52) rfl (fun _ _ => rfl) ?_
            refine ow_gf rfl rfl rfl hlen rfl ?_
            refine rt_ico rfl ki_1 ?_
            refine ba_iadd rfl ?_
            rw [n_add]
            refine ow_pf (l2 := ((1, tcl n lim a kd pl 23 le nu tk (Int32.ofNat 0) fp) :: (2, bcl bs) :: [(13, dcl13 P Dn lw cl id gl bo), (14, lng pn), (15, ia ri), (16, ia lf), (17, ia wa), (18, ia fo), (19, lng dn), (20, ia ha), (21, ia pa), (22, ia bl), (115, .inr (7, [.int (Int32.ofNat (o + 1)), .int (Int32.ofNat s), .ref 116, .ref 117, .ref 118, .ref 119])), (116, wrd ws), (117, ia sgl), (118, ia nbl)])) rfl rfl rfl rfl rfl hlen rfl rfl ?_
            refine RT_step (pc2 := 61) rfl (fun _ _ => rfl) ?_
            refine ow_gf rfl rfl rfl hlen rfl ?_
            refine RT_step (pc2 := 66) rfl (fun _ _ => rfl) ?_
            refine RT_step (pc2 := 67) rfl (fun _ _ => rfl) ?_
            refine ow_iv0 (l2 := ((1, tcl n lim a1 kd1 pl1 w1 le1 nu1 tk (Int32.ofNat 0) fp1) :: (2, bcl bs) :: [(13, dcl13 P Dn lw cl id gl bo), (14, lng pn), (15, ia ri), (16, ia lf), (17, ia wa), (18, ia fo), (19, lng dn), (20, ia ha), (21, ia pa), (22, ia bl), (115, .inr (7, [.int (Int32.ofNat (o + 1)), .int (Int32.ofNat s), .ref 116, .ref 117, .ref 118, .ref 119])), (116, wrd ws), (117, ia sgl), (118, ia nbl)])) rfl rfl rfl rfl hlen rfl rfl rfl ((x1 _ (ov_hl hlen) (ov_at rfl (ov_lt hlen (by decide))) (ov_at rfl (ov_lt hlen (by decide)))).up (by omega)) rfl ?_
            refine RT_step (pc2 := 72) rfl (fun _ _ => rfl) ?_
            refine bcT_eq rfl rfl ?_
            refine RT_step (pc2 := 105) rfl (fun _ _ => rfl) ?_
            refine RT_step (pc2 := 107) rfl (fun _ _ => rfl) ?_
            refine rt_ord rfl (by decide) rfl ?_
            refine rt_isw rfl (v := 22) (by decide +kernel) ?_
            refine rt_tsD (t := 185) rfl (by decide) rfl ?_
            refine RT_step (pc2 := 186) rfl (fun _ _ => rfl) ?_
            refine RT_step (pc2 := 188) rfl (fun _ _ => rfl) ?_
            refine rt_ico rfl ki_0 ?_
            refine rt_ico rfl ki_0 ?_
            refine ow_iv0 (l2 := ((1, tcl n lim a1 kd1 pl1 w1 le1 nu1 tk (Int32.ofNat 0) fp1) :: (2, bcl bs) :: [(13, dcl13 P Dn lw cl id gl bo), (14, lng pn), (15, ia ri), (16, ia lf), (17, ia wa), (18, ia fo), (19, lng dn), (20, ia ha), (21, ia pa), (22, ia bl), (115, .inr (7, [.int (Int32.ofNat (o + 1)), .int (Int32.ofNat s2), .ref 116, .ref 117, .ref 118, .ref 119])), (116, wrd ws2), (117, ia sl2), (118, ia nb2)])) rfl rfl rfl rfl hlen rfl rfl rfl ((hadd _ _ (ov_hl hlen) (ov_at rfl (ov_lt hlen (by decide))) (ov_at rfl (ov_lt hlen (by decide))) (ov_at rfl (ov_lt hlen (by decide))) (ov_at rfl (ov_lt hlen (by decide)))).up (by omega)) rfl ?_
            refine rt_ico rfl ki_1 ?_
            exact ow_irt rfl rfl rfl
          · refine FR_st2 (l2 := ((180, mcl (Int32.ofNat 0) (Int32.ofNat 0) n lim a1 pl1 (km kd1) nm1 sg1 (Int32.ofNat 0) qm1 wd1 td (posn vs (nn + 1) (o + 1) wi nn)) :: (181, mtl ts) :: [(182, ia nw), (187, lng nz), (202, ia ((((nl.set (4 * nn) (Int32.ofNat (50 + j))).set (4 * nn + 1) (Int32.ofNat 0)).set (4 * nn + 2) (Int32.ofNat 0)).set (4 * nn + 3) (Int32.ofNat 0)))])) rfl rfl rfl ?_
            refine RT_step (pc2 := 1) rfl (fun _ _ => rfl) ?_
            refine rt_bip rfl k8_40 ?_
            refine ow_iv1 (l2 := ((180, mcl (Int32.ofNat 0) (Int32.ofNat 0) n lim a pl (km kd) nm sg (Int32.ofNat 0) qm wd td (posn vs nn o wi tp)) :: (181, mtl ts) :: [(182, ia nw), (187, lng nz), (202, ia nl)])) rfl rfl rfl rfl hlen rfl rfl rfl ((m_isSign (ov_hl hlen) (ov_at rfl (ov_lt hlen (by decide))) hk (c := 40) (s := sv) (by decide) sv1 sv3).up (by omega)) rfl ?_
            refine RT_step (pc2 := 7) rfl (fun _ _ => rfl) ?_
            rw [bq, g]
            refine rt_bip rfl k8_19 ?_
            refine RT_step (pc2 := 10) rfl (fun _ _ => rfl) ?_
            refine m_wl (z := b01 false) hlen hk 11 19 _ rfl rfl rfl rfl (fun L2 l0 l1 l2 => ?_)
            rw [wj_eq t 11 19 rfl, jw] at l2
            refine rt_ild rfl l1 ?_
            refine bcT_ne rfl rfl ?_
            refine rt_ild rfl l2 ?_
            refine rt_bip rfl k8_29 ?_
            refine biT_le rfl (n_le (by omega) (by omega)) ?_
            refine rt_ald rfl l0 ?_
            refine ow_gf rfl rfl rfl hlen rfl ?_
            refine rt_bip rfl k8_20 ?_
            refine biF_eq rfl (n_ne (by omega) (by omega) (by omega)) ?_
            refine rt_ald rfl l0 ?_
            refine ow_gf rfl rfl rfl hlen rfl ?_
            refine rt_bip rfl k8_8 ?_
            refine biF_ne rfl (n_ne (by omega) (by omega) (by omega)) ?_
            refine rt_ald rfl l0 ?_
            refine RT_step (pc2 := 72) rfl (fun _ _ => rfl) ?_
            refine ow_gf rfl rfl rfl hlen rfl ?_
            refine rt_ico rfl ki_1 ?_
            refine ba_iadd rfl ?_
            rw [n_add]
            refine ow_pf (l2 := ((180, mcl (Int32.ofNat 0) (Int32.ofNat 0) n lim a pl (km kd) nm sg (Int32.ofNat 0) qm wd td (posn vs nn (o + 1) wi tp)) :: (181, mtl ts) :: [(182, ia nw), (187, lng nz), (202, ia nl)])) rfl rfl rfl rfl rfl hlen rfl rfl ?_
            refine rt_ald rfl l0 ?_
            refine RT_step (pc2 := 82) rfl (fun _ _ => rfl) ?_
            refine ow_gf rfl rfl rfl hlen rfl ?_
            refine rt_ico rfl ki_1 ?_
            refine ba_iadd rfl ?_
            rw [n_add]
            refine ow_pf (l2 := ((180, mcl (Int32.ofNat 0) (Int32.ofNat 0) n lim a pl (km kd) nm sg (Int32.ofNat 0) qm wd td (posn vs nn (o + 1) (wi + 1) tp)) :: (181, mtl ts) :: [(182, ia nw), (187, lng nz), (202, ia nl)])) rfl rfl rfl rfl rfl hlen rfl rfl ?_
            refine rt_ald rfl l0 ?_
            refine ow_iv0 (l2 := ((180, mcl (Int32.ofNat 0) (Int32.ofNat 0) n lim a1 pl1 (km kd1) nm1 sg1 (Int32.ofNat 0) qm1 wd1 td (posn vs nn (o + 1) (wi + 1) tp)) :: (181, mtl ts) :: [(182, ia nw), (187, lng nz), (202, ia nl)])) rfl rfl rfl rfl hlen rfl rfl rfl ((m1 _ (ov_hl hlen) (ov_at rfl (ov_lt hlen (by decide))) (ov_at rfl (ov_lt hlen (by decide)))).up (by omega)) rfl ?_
            refine rt_ico rfl ki_1 ?_
            refine rt_ist rfl (by decide +kernel) ?_
            refine rt_ild rfl (gs_o rfl l1 rfl) ?_
            refine bcT_eq rfl rfl ?_
            refine rt_ild rfl (gs_o rfl l2 rfl) ?_
            refine rt_bip rfl k8_19 ?_
            refine biF_ne rfl (n_ne (by omega) (by omega) (by omega)) ?_
            refine rt_ild rfl (gs_o rfl l2 rfl) ?_
            refine rt_bip rfl k8_25 ?_
            refine biF_ge rfl (n_nle (by omega) (by omega)) ?_
            refine rt_ald rfl (gs_o rfl l0 rfl) ?_
            refine rt_ald rfl (gs_o rfl l0 rfl) ?_
            refine rt_bip rfl k8_50 ?_
            refine rt_ild rfl (gs_o rfl l2 rfl) ?_
            refine ba_iadd rfl ?_
            rw [n_add]
            refine rt_ico rfl ki_0 ?_
            refine rt_ico rfl ki_0 ?_
            refine rt_ico rfl ki_0 ?_
            refine ow_iv1 (l2 := ((180, mcl (Int32.ofNat 0) (Int32.ofNat 0) n lim a1 pl1 (km kd1) nm1 sg1 (Int32.ofNat 0) qm1 wd1 td (posn vs (nn + 1) (o + 1) (wi + 1) tp)) :: (181, mtl ts) :: [(182, ia nw), (187, lng nz), (202, ia ((((nl.set (4 * nn) (Int32.ofNat (50 + j))).set (4 * nn + 1) (Int32.ofNat 0)).set (4 * nn + 2) (Int32.ofNat 0)).set (4 * nn + 3) (Int32.ofNat 0)))])) rfl rfl rfl rfl hlen rfl rfl rfl ((m_says (ov_hl hlen) (ov_at rfl (ov_lt hlen (by decide))) (ov_at rfl (ov_lt hlen (by decide))) ln (by omega)).up (by omega)) rfl ?_
            refine ow_pf (l2 := ((180, mcl (Int32.ofNat 0) (Int32.ofNat 0) n lim a1 pl1 (km kd1) nm1 sg1 (Int32.ofNat 0) qm1 wd1 td (posn vs (nn + 1) (o + 1) (wi + 1) nn)) :: (181, mtl ts) :: [(182, ia nw), (187, lng nz), (202, ia ((((nl.set (4 * nn) (Int32.ofNat (50 + j))).set (4 * nn + 1) (Int32.ofNat 0)).set (4 * nn + 2) (Int32.ofNat 0)).set (4 * nn + 3) (Int32.ofNat 0)))])) rfl rfl rfl rfl rfl hlen rfl rfl ?_
            refine RT_step (pc2 := 166) rfl (fun _ _ => rfl) ?_
            refine rt_ald rfl (gs_o rfl l0 rfl) ?_
            refine RT_step (pc2 := 168) rfl (fun _ _ => rfl) ?_
            refine ow_gf rfl rfl rfl hlen rfl ?_
            refine rt_ico rfl ki_1 ?_
            refine ba_isub rfl ?_
            rw [n_sub (by omega), Nat.add_sub_cancel]
            refine ow_pf (l2 := ((180, mcl (Int32.ofNat 0) (Int32.ofNat 0) n lim a1 pl1 (km kd1) nm1 sg1 (Int32.ofNat 0) qm1 wd1 td (posn vs (nn + 1) (o + 1) wi nn)) :: (181, mtl ts) :: [(182, ia nw), (187, lng nz), (202, ia ((((nl.set (4 * nn) (Int32.ofNat (50 + j))).set (4 * nn + 1) (Int32.ofNat 0)).set (4 * nn + 2) (Int32.ofNat 0)).set (4 * nn + 3) (Int32.ofNat 0)))])) rfl rfl rfl rfl rfl hlen rfl rfl ?_
            refine rt_ild rfl gs_n ?_
            exact ow_irt rfl rfl rfl
      · have hk1 := w_k1 t (by omega)
        by_cases cf : o = 20 ∨ wi = 8
        · obtain ⟨T, M, f, hx, hm⟩ := s_ref (bs := bs) (ts := ts) (lim := lim) (po := (posn vs nn o wi tp)) (pl := pl) (tk := tk) (td := td) (fp := fp) (plM := qm) t (kk := 4) (by decide) (by decide) (Or.inl (by omega))
          refine Or.inl ⟨T, M, o, s, nn, tp, ws, sgl, nbl, nl, f, sx, ?_⟩
          by_cases co : o = 20
          · refine ⟨fun H hlen => ?_, fun H hlen => ?_⟩
            · refine FR_st2 (l2 := ((1, T) :: (2, bcl bs) :: [(13, dcl13 P Dn lw cl id gl bo), (14, lng pn), (15, ia ri), (16, ia lf), (17, ia wa), (18, ia fo), (19, lng dn), (20, ia ha), (21, ia pa), (22, ia bl), (115, .inr (7, [.int (Int32.ofNat o), .int (Int32.ofNat s), .ref 116, .ref 117, .ref 118, .ref 119])), (116, wrd ws), (117, ia sgl), (118, ia nbl)])) rfl rfl rfl ?_
              refine RT_step (pc2 := 1) rfl (fun _ _ => rfl) ?_
              refine rt_bip rfl k8_40 ?_
              refine ow_iv1 (l2 := ((1, tcl n lim a kd pl 3 le nu tk (Int32.ofNat 0) fp) :: (2, bcl bs) :: [(13, dcl13 P Dn lw cl id gl bo), (14, lng pn), (15, ia ri), (16, ia lf), (17, ia wa), (18, ia fo), (19, lng dn), (20, ia ha), (21, ia pa), (22, ia bl), (115, .inr (7, [.int (Int32.ofNat o), .int (Int32.ofNat s), .ref 116, .ref 117, .ref 118, .ref 119])), (116, wrd ws), (117, ia sgl), (118, ia nbl)])) rfl rfl rfl rfl hlen rfl rfl rfl ((x_isMarkHere (ov_hl hlen) (ov_at rfl (ov_lt hlen (by decide))) hk5 (c := 40) (s := sv) (by decide) sv1 sv2).up (by omega)) rfl ?_
              rw [g]
              refine RT_step (pc2 := 8) rfl (fun _ _ => rfl) ?_
              refine RT_step (pc2 := 10) rfl (fun _ _ => rfl) ?_
              refine bcT_ne rfl rfl ?_
              refine RT_step (pc2 := 14) rfl (fun _ _ => rfl) ?_
              refine ow_gf rfl rfl rfl hlen rfl ?_
              refine ow_is1 (l2 := ((1, tcl n lim a kd pl 3 le nu tk (Int32.ofNat 0) fp) :: (2, bcl bs) :: [(13, dcl13 P Dn lw cl id gl bo), (14, lng pn), (15, ia ri), (16, ia lf), (17, ia wa), (18, ia fo), (19, lng dn), (20, ia ha), (21, ia pa), (22, ia bl), (115, .inr (7, [.int (Int32.ofNat o), .int (Int32.ofNat s), .ref 116, .ref 117, .ref 118, .ref 119])), (116, wrd ws), (117, ia sgl), (118, ia nbl)])) rfl rfl rfl rfl rfl ((x_beg_t (H := ov H ((1, tcl n lim a kd pl 3 le nu tk (Int32.ofNat 0) fp) :: (2, bcl bs) :: [(13, dcl13 P Dn lw cl id gl bo), (14, lng pn), (15, ia ri), (16, ia lf), (17, ia wa), (18, ia fo), (19, lng dn), (20, ia ha), (21, ia pa), (22, ia bl), (115, .inr (7, [.int (Int32.ofNat o), .int (Int32.ofNat s), .ref 116, .ref 117, .ref 118, .ref 119])), (116, wrd ws), (117, ia sgl), (118, ia nbl)])) (by decide)).up (by omega)) rfl ?_
              refine bcF_ne rfl (by decide) ?_
              refine RT_step (pc2 := 30) rfl (fun _ _ => rfl) ?_
              refine ow_gf rfl rfl rfl hlen rfl ?_
              refine rt_bip rfl k8_20 ?_
              refine biT_ge rfl (n_le (by omega) (by omega)) ?_
              refine RT_step (pc2 := 45) rfl (fun _ _ => rfl) ?_
              refine rt_ico rfl ki_4 ?_
              refine ow_iv1 (l2 := ((1, T) :: (2, bcl bs) :: [(13, dcl13 P Dn lw cl id gl bo), (14, lng pn), (15, ia ri), (16, ia lf), (17, ia wa), (18, ia fo), (19, lng dn), (20, ia ha), (21, ia pa), (22, ia bl), (115, .inr (7, [.int (Int32.ofNat o), .int (Int32.ofNat s), .ref 116, .ref 117, .ref 118, .ref 119])), (116, wrd ws), (117, ia sgl), (118, ia nbl)])) rfl rfl rfl rfl hlen rfl rfl rfl ((hx _ (ov_hl hlen) (ov_at rfl (ov_lt hlen (by decide))) (ov_at rfl (ov_lt hlen (by decide)))).up (by omega)) rfl ?_
              exact ow_irt rfl rfl rfl
            · refine FR_st2 (l2 := ((180, M) :: (181, mtl ts) :: [(182, ia nw), (187, lng nz), (202, ia nl)])) rfl rfl rfl ?_
              refine RT_step (pc2 := 1) rfl (fun _ _ => rfl) ?_
              refine rt_bip rfl k8_40 ?_
              refine ow_iv1 (l2 := ((180, mcl (Int32.ofNat 0) (Int32.ofNat 0) n lim a pl (km kd) nm sg (Int32.ofNat 0) qm wd td (posn vs nn o wi tp)) :: (181, mtl ts) :: [(182, ia nw), (187, lng nz), (202, ia nl)])) rfl rfl rfl rfl hlen rfl rfl rfl ((m_isSign (ov_hl hlen) (ov_at rfl (ov_lt hlen (by decide))) hk (c := 40) (s := sv) (by decide) sv1 sv3).up (by omega)) rfl ?_
              refine RT_step (pc2 := 7) rfl (fun _ _ => rfl) ?_
              rw [bq, g]
              refine rt_bip rfl k8_19 ?_
              refine RT_step (pc2 := 10) rfl (fun _ _ => rfl) ?_
              refine m_wl (z := b01 false) hlen hk 11 19 _ rfl rfl rfl rfl (fun L2 l0 l1 l2 => ?_)
              rw [wj_eq t 11 19 rfl, jw] at l2
              refine rt_ild rfl l1 ?_
              refine bcT_ne rfl rfl ?_
              refine rt_ild rfl l2 ?_
              refine rt_bip rfl k8_29 ?_
              refine biT_le rfl (n_le (by omega) (by omega)) ?_
              refine rt_ald rfl l0 ?_
              refine ow_gf rfl rfl rfl hlen rfl ?_
              refine rt_bip rfl k8_20 ?_
              refine biT_eq rfl (n_eq co) ?_
              refine rt_ald rfl l0 ?_
              refine rt_ico rfl ki_4 ?_
              refine ow_iv1 (l2 := ((180, M) :: (181, mtl ts) :: [(182, ia nw), (187, lng nz), (202, ia nl)])) rfl rfl rfl rfl hlen rfl rfl rfl ((hm _ (ov_hl hlen) (ov_at rfl (ov_lt hlen (by decide))) (ov_at rfl (ov_lt hlen (by decide)))).up (by omega)) rfl ?_
              exact ow_irt rfl rfl rfl
          · refine ⟨fun H hlen => ?_, fun H hlen => ?_⟩
            · refine FR_st2 (l2 := ((1, T) :: (2, bcl bs) :: [(13, dcl13 P Dn lw cl id gl bo), (14, lng pn), (15, ia ri), (16, ia lf), (17, ia wa), (18, ia fo), (19, lng dn), (20, ia ha), (21, ia pa), (22, ia bl), (115, .inr (7, [.int (Int32.ofNat o), .int (Int32.ofNat s), .ref 116, .ref 117, .ref 118, .ref 119])), (116, wrd ws), (117, ia sgl), (118, ia nbl)])) rfl rfl rfl ?_
              refine RT_step (pc2 := 1) rfl (fun _ _ => rfl) ?_
              refine rt_bip rfl k8_40 ?_
              refine ow_iv1 (l2 := ((1, tcl n lim a kd pl 3 le nu tk (Int32.ofNat 0) fp) :: (2, bcl bs) :: [(13, dcl13 P Dn lw cl id gl bo), (14, lng pn), (15, ia ri), (16, ia lf), (17, ia wa), (18, ia fo), (19, lng dn), (20, ia ha), (21, ia pa), (22, ia bl), (115, .inr (7, [.int (Int32.ofNat o), .int (Int32.ofNat s), .ref 116, .ref 117, .ref 118, .ref 119])), (116, wrd ws), (117, ia sgl), (118, ia nbl)])) rfl rfl rfl rfl hlen rfl rfl rfl ((x_isMarkHere (ov_hl hlen) (ov_at rfl (ov_lt hlen (by decide))) hk5 (c := 40) (s := sv) (by decide) sv1 sv2).up (by omega)) rfl ?_
              rw [g]
              refine RT_step (pc2 := 8) rfl (fun _ _ => rfl) ?_
              refine RT_step (pc2 := 10) rfl (fun _ _ => rfl) ?_
              refine bcT_ne rfl rfl ?_
              refine RT_step (pc2 := 14) rfl (fun _ _ => rfl) ?_
              refine ow_gf rfl rfl rfl hlen rfl ?_
              refine ow_is1 (l2 := ((1, tcl n lim a kd pl 3 le nu tk (Int32.ofNat 0) fp) :: (2, bcl bs) :: [(13, dcl13 P Dn lw cl id gl bo), (14, lng pn), (15, ia ri), (16, ia lf), (17, ia wa), (18, ia fo), (19, lng dn), (20, ia ha), (21, ia pa), (22, ia bl), (115, .inr (7, [.int (Int32.ofNat o), .int (Int32.ofNat s), .ref 116, .ref 117, .ref 118, .ref 119])), (116, wrd ws), (117, ia sgl), (118, ia nbl)])) rfl rfl rfl rfl rfl ((x_beg_t (H := ov H ((1, tcl n lim a kd pl 3 le nu tk (Int32.ofNat 0) fp) :: (2, bcl bs) :: [(13, dcl13 P Dn lw cl id gl bo), (14, lng pn), (15, ia ri), (16, ia lf), (17, ia wa), (18, ia fo), (19, lng dn), (20, ia ha), (21, ia pa), (22, ia bl), (115, .inr (7, [.int (Int32.ofNat o), .int (Int32.ofNat s), .ref 116, .ref 117, .ref 118, .ref 119])), (116, wrd ws), (117, ia sgl), (118, ia nbl)])) (by decide)).up (by omega)) rfl ?_
              refine bcF_ne rfl (by decide) ?_
              refine RT_step (pc2 := 30) rfl (fun _ _ => rfl) ?_
              refine ow_gf rfl rfl rfl hlen rfl ?_
              refine rt_bip rfl k8_20 ?_
              refine biF_ge rfl (n_nle (by omega) (by omega)) ?_
              refine RT_step (pc2 := 39) rfl (fun _ _ => rfl) ?_
              refine rt_bip rfl k8_8 ?_
              refine biF_le rfl (n_nle (by omega) (by omega)) ?_
              refine RT_step (pc2 := 45) rfl (fun _ _ => rfl) ?_
              refine rt_ico rfl ki_4 ?_
              refine ow_iv1 (l2 := ((1, T) :: (2, bcl bs) :: [(13, dcl13 P Dn lw cl id gl bo), (14, lng pn), (15, ia ri), (16, ia lf), (17, ia wa), (18, ia fo), (19, lng dn), (20, ia ha), (21, ia pa), (22, ia bl), (115, .inr (7, [.int (Int32.ofNat o), .int (Int32.ofNat s), .ref 116, .ref 117, .ref 118, .ref 119])), (116, wrd ws), (117, ia sgl), (118, ia nbl)])) rfl rfl rfl rfl hlen rfl rfl rfl ((hx _ (ov_hl hlen) (ov_at rfl (ov_lt hlen (by decide))) (ov_at rfl (ov_lt hlen (by decide)))).up (by omega)) rfl ?_
              exact ow_irt rfl rfl rfl
            · refine FR_st2 (l2 := ((180, M) :: (181, mtl ts) :: [(182, ia nw), (187, lng nz), (202, ia nl)])) rfl rfl rfl ?_
              refine RT_step (pc2 := 1) rfl (fun _ _ => rfl) ?_
              refine rt_bip rfl k8_40 ?_
              refine ow_iv1 (l2 := ((180, mcl (Int32.ofNat 0) (Int32.ofNat 0) n lim a pl (km kd) nm sg (Int32.ofNat 0) qm wd td (posn vs nn o wi tp)) :: (181, mtl ts) :: [(182, ia nw), (187, lng nz), (202, ia nl)])) rfl rfl rfl rfl hlen rfl rfl rfl ((m_isSign (ov_hl hlen) (ov_at rfl (ov_lt hlen (by decide))) hk (c := 40) (s := sv) (by decide) sv1 sv3).up (by omega)) rfl ?_
              refine RT_step (pc2 := 7) rfl (fun _ _ => rfl) ?_
              rw [bq, g]
              refine rt_bip rfl k8_19 ?_
              refine RT_step (pc2 := 10) rfl (fun _ _ => rfl) ?_
              refine m_wl (z := b01 false) hlen hk 11 19 _ rfl rfl rfl rfl (fun L2 l0 l1 l2 => ?_)
              rw [wj_eq t 11 19 rfl, jw] at l2
              refine rt_ild rfl l1 ?_
              refine bcT_ne rfl rfl ?_
              refine rt_ild rfl l2 ?_
              refine rt_bip rfl k8_29 ?_
              refine biT_le rfl (n_le (by omega) (by omega)) ?_
              refine rt_ald rfl l0 ?_
              refine ow_gf rfl rfl rfl hlen rfl ?_
              refine rt_bip rfl k8_20 ?_
              refine biF_eq rfl (n_ne co (by omega) (by omega)) ?_
              refine rt_ald rfl l0 ?_
              refine ow_gf rfl rfl rfl hlen rfl ?_
              refine rt_bip rfl k8_8 ?_
              refine biT_ne rfl (n_eq (by omega)) ?_
              refine rt_ald rfl l0 ?_
              refine rt_ico rfl ki_4 ?_
              refine ow_iv1 (l2 := ((180, M) :: (181, mtl ts) :: [(182, ia nw), (187, lng nz), (202, ia nl)])) rfl rfl rfl rfl hlen rfl rfl rfl ((hm _ (ov_hl hlen) (ov_at rfl (ov_lt hlen (by decide))) (ov_at rfl (ov_lt hlen (by decide)))).up (by omega)) rfl ?_
              exact ow_irt rfl rfl rfl
        · obtain ⟨T1, M1, c1, x1, m1⟩ := s_adv hB hM hb hn hl (po := (posn vs nn (o + 1) (wi + 1) tp)) (pl := pl) (tk := tk) (td := td) (fp := fp) (plM := qm) t (by omega) (by omega)
          obtain ⟨a1, kd1, pl1, w1, le1, nu1, fp1, nm1, sg1, qm1, wd1, rfl, rfl, t1⟩ := c1
          obtain ⟨s2, ws2, sl2, nb2, sx2, hadd⟩ := sx_add115 sx (w := 3) (by decide) (Int32.ofNat 0) (Int32.ofNat 0)
          refine Or.inr ⟨(k + 1), tk, td, tcl n lim a1 kd1 pl1 w1 le1 nu1 tk (Int32.ofNat 0) fp1, mcl (Int32.ofNat 0) (Int32.ofNat 0) n lim a1 pl1 (km kd1) nm1 sg1 (Int32.ofNat 0) qm1 wd1 td (posn vs (nn + 1) (o + 1) wi nn), (o + 1), s2, (nn + 1), nn, ws2, sl2, nb2, ((((nl.set (4 * nn) (Int32.ofNat (50 + j))).set (4 * nn + 1) (Int32.ofNat 0)).set (4 * nn + 2) (Int32.ofNat 0)).set (4 * nn + 3) (Int32.ofNat 0)), (tf_td t1), by omega, by omega, by omega, by omega, ?_, ?_, fun H hlen => ?_, fun H hlen => ?_⟩
          · exact sx2
          · simp only [List.length_set]; exact ln
          · refine FR_st2 (l2 := ((1, tcl n lim a1 kd1 pl1 w1 le1 nu1 tk (Int32.ofNat 0) fp1) :: (2, bcl bs) :: [(13, dcl13 P Dn lw cl id gl bo), (14, lng pn), (15, ia ri), (16, ia lf), (17, ia wa), (18, ia fo), (19, lng dn), (20, ia ha), (21, ia pa), (22, ia bl), (115, .inr (7, [.int (Int32.ofNat (o + 1)), .int (Int32.ofNat s2), .ref 116, .ref 117, .ref 118, .ref 119])), (116, wrd ws2), (117, ia sl2), (118, ia nb2)])) rfl rfl rfl ?_
            refine RT_step (pc2 := 1) rfl (fun _ _ => rfl) ?_
            refine rt_bip rfl k8_40 ?_
            refine ow_iv1 (l2 := ((1, tcl n lim a kd pl 3 le nu tk (Int32.ofNat 0) fp) :: (2, bcl bs) :: [(13, dcl13 P Dn lw cl id gl bo), (14, lng pn), (15, ia ri), (16, ia lf), (17, ia wa), (18, ia fo), (19, lng dn), (20, ia ha), (21, ia pa), (22, ia bl), (115, .inr (7, [.int (Int32.ofNat o), .int (Int32.ofNat s), .ref 116, .ref 117, .ref 118, .ref 119])), (116, wrd ws), (117, ia sgl), (118, ia nbl)])) rfl rfl rfl rfl hlen rfl rfl rfl ((x_isMarkHere (ov_hl hlen) (ov_at rfl (ov_lt hlen (by decide))) hk5 (c := 40) (s := sv) (by decide) sv1 sv2).up (by omega)) rfl ?_
            rw [g]
            refine RT_step (pc2 := 8) rfl (fun _ _ => rfl) ?_
            refine RT_step (pc2 := 10) rfl (fun _ _ => rfl) ?_
            refine bcT_ne rfl rfl ?_
            refine RT_step (pc2 := 14) rfl (fun _ _ => rfl) ?_
            refine ow_gf rfl rfl rfl hlen rfl ?_
            refine ow_is1 (l2 := ((1, tcl n lim a kd pl 3 le nu tk (Int32.ofNat 0) fp) :: (2, bcl bs) :: [(13, dcl13 P Dn lw cl id gl bo), (14, lng pn), (15, ia ri), (16, ia lf), (17, ia wa), (18, ia fo), (19, lng dn), (20, ia ha), (21, ia pa), (22, ia bl), (115, .inr (7, [.int (Int32.ofNat o), .int (Int32.ofNat s), .ref 116, .ref 117, .ref 118, .ref 119])), (116, wrd ws), (117, ia sgl), (118, ia nbl)])) rfl rfl rfl rfl rfl ((x_beg_t (H := ov H ((1, tcl n lim a kd pl 3 le nu tk (Int32.ofNat 0) fp) :: (2, bcl bs) :: [(13, dcl13 P Dn lw cl id gl bo), (14, lng pn), (15, ia ri), (16, ia lf), (17, ia wa), (18, ia fo), (19, lng dn), (20, ia ha), (21, ia pa), (22, ia bl), (115, .inr (7, [.int (Int32.ofNat o), .int (Int32.ofNat s), .ref 116, .ref 117, .ref 118, .ref 119])), (116, wrd ws), (117, ia sgl), (118, ia nbl)])) (by decide)).up (by omega)) rfl ?_
            refine bcF_ne rfl (by decide) ?_
            refine RT_step (pc2 := 30) rfl (fun _ _ => rfl) ?_
            refine ow_gf rfl rfl rfl hlen rfl ?_
            refine rt_bip rfl k8_20 ?_
            refine biF_ge rfl (n_nle (by omega) (by omega)) ?_
            refine RT_step (pc2 := 39) rfl (fun _ _ => rfl) ?_
            refine rt_bip rfl k8_8 ?_
            refine biT_le rfl (n_le (by omega) (by omega)) ?_
            refine RT_step (pc2 := 51) rfl (fun _ _ => rfl) ?_
            refine RT_step (pc2 := 52) rfl (fun _ _ => rfl) ?_
            refine ow_gf rfl rfl rfl hlen rfl ?_
            refine rt_ico rfl ki_1 ?_
            refine ba_iadd rfl ?_
            rw [n_add]
            refine ow_pf (l2 := ((1, tcl n lim a kd pl 3 le nu tk (Int32.ofNat 0) fp) :: (2, bcl bs) :: [(13, dcl13 P Dn lw cl id gl bo), (14, lng pn), (15, ia ri), (16, ia lf), (17, ia wa), (18, ia fo), (19, lng dn), (20, ia ha), (21, ia pa), (22, ia bl), (115, .inr (7, [.int (Int32.ofNat (o + 1)), .int (Int32.ofNat s), .ref 116, .ref 117, .ref 118, .ref 119])), (116, wrd ws), (117, ia sgl), (118, ia nbl)])) rfl rfl rfl rfl rfl hlen rfl rfl ?_
            refine RT_step (pc2 := 61) rfl (fun _ _ => rfl) ?_
            refine ow_gf rfl rfl rfl hlen rfl ?_
            refine RT_step (pc2 := 66) rfl (fun _ _ => rfl) ?_
            refine RT_step (pc2 := 67) rfl (fun _ _ => rfl) ?_
            refine ow_iv0 (l2 := ((1, tcl n lim a1 kd1 pl1 w1 le1 nu1 tk (Int32.ofNat 0) fp1) :: (2, bcl bs) :: [(13, dcl13 P Dn lw cl id gl bo), (14, lng pn), (15, ia ri), (16, ia lf), (17, ia wa), (18, ia fo), (19, lng dn), (20, ia ha), (21, ia pa), (22, ia bl), (115, .inr (7, [.int (Int32.ofNat (o + 1)), .int (Int32.ofNat s), .ref 116, .ref 117, .ref 118, .ref 119])), (116, wrd ws), (117, ia sgl), (118, ia nbl)])) rfl rfl rfl rfl hlen rfl rfl rfl ((x1 _ (ov_hl hlen) (ov_at rfl (ov_lt hlen (by decide))) (ov_at rfl (ov_lt hlen (by decide)))).up (by omega)) rfl ?_
            refine RT_step (pc2 := 72) rfl (fun _ _ => rfl) ?_
            refine bcT_eq rfl rfl ?_
            refine RT_step (pc2 := 105) rfl (fun _ _ => rfl) ?_
            refine RT_step (pc2 := 107) rfl (fun _ _ => rfl) ?_
            refine rt_ord rfl (by decide) rfl ?_
            refine rt_isw rfl (v := 23) (by decide +kernel) ?_
            refine rt_tsD (t := 185) rfl (by decide) rfl ?_
            refine RT_step (pc2 := 186) rfl (fun _ _ => rfl) ?_
            refine RT_step (pc2 := 188) rfl (fun _ _ => rfl) ?_
            refine rt_ico rfl ki_0 ?_
            refine rt_ico rfl ki_0 ?_
            refine ow_iv0 (l2 := ((1, tcl n lim a1 kd1 pl1 w1 le1 nu1 tk (Int32.ofNat 0) fp1) :: (2, bcl bs) :: [(13, dcl13 P Dn lw cl id gl bo), (14, lng pn), (15, ia ri), (16, ia lf), (17, ia wa), (18, ia fo), (19, lng dn), (20, ia ha), (21, ia pa), (22, ia bl), (115, .inr (7, [.int (Int32.ofNat (o + 1)), .int (Int32.ofNat s2), .ref 116, .ref 117, .ref 118, .ref 119])), (116, wrd ws2), (117, ia sl2), (118, ia nb2)])) rfl rfl rfl rfl hlen rfl rfl rfl ((hadd _ _ (ov_hl hlen) (ov_at rfl (ov_lt hlen (by decide))) (ov_at rfl (ov_lt hlen (by decide))) (ov_at rfl (ov_lt hlen (by decide))) (ov_at rfl (ov_lt hlen (by decide)))).up (by omega)) rfl ?_
            refine rt_ico rfl ki_1 ?_
            exact ow_irt rfl rfl rfl
          · refine FR_st2 (l2 := ((180, mcl (Int32.ofNat 0) (Int32.ofNat 0) n lim a1 pl1 (km kd1) nm1 sg1 (Int32.ofNat 0) qm1 wd1 td (posn vs (nn + 1) (o + 1) wi nn)) :: (181, mtl ts) :: [(182, ia nw), (187, lng nz), (202, ia ((((nl.set (4 * nn) (Int32.ofNat (50 + j))).set (4 * nn + 1) (Int32.ofNat 0)).set (4 * nn + 2) (Int32.ofNat 0)).set (4 * nn + 3) (Int32.ofNat 0)))])) rfl rfl rfl ?_
            refine RT_step (pc2 := 1) rfl (fun _ _ => rfl) ?_
            refine rt_bip rfl k8_40 ?_
            refine ow_iv1 (l2 := ((180, mcl (Int32.ofNat 0) (Int32.ofNat 0) n lim a pl (km kd) nm sg (Int32.ofNat 0) qm wd td (posn vs nn o wi tp)) :: (181, mtl ts) :: [(182, ia nw), (187, lng nz), (202, ia nl)])) rfl rfl rfl rfl hlen rfl rfl rfl ((m_isSign (ov_hl hlen) (ov_at rfl (ov_lt hlen (by decide))) hk (c := 40) (s := sv) (by decide) sv1 sv3).up (by omega)) rfl ?_
            refine RT_step (pc2 := 7) rfl (fun _ _ => rfl) ?_
            rw [bq, g]
            refine rt_bip rfl k8_19 ?_
            refine RT_step (pc2 := 10) rfl (fun _ _ => rfl) ?_
            refine m_wl (z := b01 false) hlen hk 11 19 _ rfl rfl rfl rfl (fun L2 l0 l1 l2 => ?_)
            rw [wj_eq t 11 19 rfl, jw] at l2
            refine rt_ild rfl l1 ?_
            refine bcT_ne rfl rfl ?_
            refine rt_ild rfl l2 ?_
            refine rt_bip rfl k8_29 ?_
            refine biT_le rfl (n_le (by omega) (by omega)) ?_
            refine rt_ald rfl l0 ?_
            refine ow_gf rfl rfl rfl hlen rfl ?_
            refine rt_bip rfl k8_20 ?_
            refine biF_eq rfl (n_ne (by omega) (by omega) (by omega)) ?_
            refine rt_ald rfl l0 ?_
            refine ow_gf rfl rfl rfl hlen rfl ?_
            refine rt_bip rfl k8_8 ?_
            refine biF_ne rfl (n_ne (by omega) (by omega) (by omega)) ?_
            refine rt_ald rfl l0 ?_
            refine RT_step (pc2 := 72) rfl (fun _ _ => rfl) ?_
            refine ow_gf rfl rfl rfl hlen rfl ?_
            refine rt_ico rfl ki_1 ?_
            refine ba_iadd rfl ?_
            rw [n_add]
            refine ow_pf (l2 := ((180, mcl (Int32.ofNat 0) (Int32.ofNat 0) n lim a pl (km kd) nm sg (Int32.ofNat 0) qm wd td (posn vs nn (o + 1) wi tp)) :: (181, mtl ts) :: [(182, ia nw), (187, lng nz), (202, ia nl)])) rfl rfl rfl rfl rfl hlen rfl rfl ?_
            refine rt_ald rfl l0 ?_
            refine RT_step (pc2 := 82) rfl (fun _ _ => rfl) ?_
            refine ow_gf rfl rfl rfl hlen rfl ?_
            refine rt_ico rfl ki_1 ?_
            refine ba_iadd rfl ?_
            rw [n_add]
            refine ow_pf (l2 := ((180, mcl (Int32.ofNat 0) (Int32.ofNat 0) n lim a pl (km kd) nm sg (Int32.ofNat 0) qm wd td (posn vs nn (o + 1) (wi + 1) tp)) :: (181, mtl ts) :: [(182, ia nw), (187, lng nz), (202, ia nl)])) rfl rfl rfl rfl rfl hlen rfl rfl ?_
            refine rt_ald rfl l0 ?_
            refine ow_iv0 (l2 := ((180, mcl (Int32.ofNat 0) (Int32.ofNat 0) n lim a1 pl1 (km kd1) nm1 sg1 (Int32.ofNat 0) qm1 wd1 td (posn vs nn (o + 1) (wi + 1) tp)) :: (181, mtl ts) :: [(182, ia nw), (187, lng nz), (202, ia nl)])) rfl rfl rfl rfl hlen rfl rfl rfl ((m1 _ (ov_hl hlen) (ov_at rfl (ov_lt hlen (by decide))) (ov_at rfl (ov_lt hlen (by decide)))).up (by omega)) rfl ?_
            refine rt_ico rfl ki_1 ?_
            refine rt_ist rfl (by decide +kernel) ?_
            refine rt_ild rfl (gs_o rfl l1 rfl) ?_
            refine bcT_eq rfl rfl ?_
            refine rt_ild rfl (gs_o rfl l2 rfl) ?_
            refine rt_bip rfl k8_19 ?_
            refine biF_ne rfl (n_ne (by omega) (by omega) (by omega)) ?_
            refine rt_ild rfl (gs_o rfl l2 rfl) ?_
            refine rt_bip rfl k8_25 ?_
            refine biF_ge rfl (n_nle (by omega) (by omega)) ?_
            refine rt_ald rfl (gs_o rfl l0 rfl) ?_
            refine rt_ald rfl (gs_o rfl l0 rfl) ?_
            refine rt_bip rfl k8_50 ?_
            refine rt_ild rfl (gs_o rfl l2 rfl) ?_
            refine ba_iadd rfl ?_
            rw [n_add]
            refine rt_ico rfl ki_0 ?_
            refine rt_ico rfl ki_0 ?_
            refine rt_ico rfl ki_0 ?_
            refine ow_iv1 (l2 := ((180, mcl (Int32.ofNat 0) (Int32.ofNat 0) n lim a1 pl1 (km kd1) nm1 sg1 (Int32.ofNat 0) qm1 wd1 td (posn vs (nn + 1) (o + 1) (wi + 1) tp)) :: (181, mtl ts) :: [(182, ia nw), (187, lng nz), (202, ia ((((nl.set (4 * nn) (Int32.ofNat (50 + j))).set (4 * nn + 1) (Int32.ofNat 0)).set (4 * nn + 2) (Int32.ofNat 0)).set (4 * nn + 3) (Int32.ofNat 0)))])) rfl rfl rfl rfl hlen rfl rfl rfl ((m_says (ov_hl hlen) (ov_at rfl (ov_lt hlen (by decide))) (ov_at rfl (ov_lt hlen (by decide))) ln (by omega)).up (by omega)) rfl ?_
            refine ow_pf (l2 := ((180, mcl (Int32.ofNat 0) (Int32.ofNat 0) n lim a1 pl1 (km kd1) nm1 sg1 (Int32.ofNat 0) qm1 wd1 td (posn vs (nn + 1) (o + 1) (wi + 1) nn)) :: (181, mtl ts) :: [(182, ia nw), (187, lng nz), (202, ia ((((nl.set (4 * nn) (Int32.ofNat (50 + j))).set (4 * nn + 1) (Int32.ofNat 0)).set (4 * nn + 2) (Int32.ofNat 0)).set (4 * nn + 3) (Int32.ofNat 0)))])) rfl rfl rfl rfl rfl hlen rfl rfl ?_
            refine RT_step (pc2 := 166) rfl (fun _ _ => rfl) ?_
            refine rt_ald rfl (gs_o rfl l0 rfl) ?_
            refine RT_step (pc2 := 168) rfl (fun _ _ => rfl) ?_
            refine ow_gf rfl rfl rfl hlen rfl ?_
            refine rt_ico rfl ki_1 ?_
            refine ba_isub rfl ?_
            rw [n_sub (by omega), Nat.add_sub_cancel]
            refine ow_pf (l2 := ((180, mcl (Int32.ofNat 0) (Int32.ofNat 0) n lim a1 pl1 (km kd1) nm1 sg1 (Int32.ofNat 0) qm1 wd1 td (posn vs (nn + 1) (o + 1) wi nn)) :: (181, mtl ts) :: [(182, ia nw), (187, lng nz), (202, ia ((((nl.set (4 * nn) (Int32.ofNat (50 + j))).set (4 * nn + 1) (Int32.ofNat 0)).set (4 * nn + 2) (Int32.ofNat 0)).set (4 * nn + 3) (Int32.ofNat 0)))])) rfl rfl rfl rfl rfl hlen rfl rfl ?_
            refine rt_ild rfl gs_n ?_
            exact ow_irt rfl rfl rfl
      · have hk1 := w_k1 t (by omega)
        by_cases cf : o = 20 ∨ wi = 8
        · obtain ⟨T, M, f, hx, hm⟩ := s_ref (bs := bs) (ts := ts) (lim := lim) (po := (posn vs nn o wi tp)) (pl := pl) (tk := tk) (td := td) (fp := fp) (plM := qm) t (kk := 4) (by decide) (by decide) (Or.inl (by omega))
          refine Or.inl ⟨T, M, o, s, nn, tp, ws, sgl, nbl, nl, f, sx, ?_⟩
          by_cases co : o = 20
          · refine ⟨fun H hlen => ?_, fun H hlen => ?_⟩
            · refine FR_st2 (l2 := ((1, T) :: (2, bcl bs) :: [(13, dcl13 P Dn lw cl id gl bo), (14, lng pn), (15, ia ri), (16, ia lf), (17, ia wa), (18, ia fo), (19, lng dn), (20, ia ha), (21, ia pa), (22, ia bl), (115, .inr (7, [.int (Int32.ofNat o), .int (Int32.ofNat s), .ref 116, .ref 117, .ref 118, .ref 119])), (116, wrd ws), (117, ia sgl), (118, ia nbl)])) rfl rfl rfl ?_
              refine RT_step (pc2 := 1) rfl (fun _ _ => rfl) ?_
              refine rt_bip rfl k8_40 ?_
              refine ow_iv1 (l2 := ((1, tcl n lim a kd pl 24 le nu tk (Int32.ofNat 0) fp) :: (2, bcl bs) :: [(13, dcl13 P Dn lw cl id gl bo), (14, lng pn), (15, ia ri), (16, ia lf), (17, ia wa), (18, ia fo), (19, lng dn), (20, ia ha), (21, ia pa), (22, ia bl), (115, .inr (7, [.int (Int32.ofNat o), .int (Int32.ofNat s), .ref 116, .ref 117, .ref 118, .ref 119])), (116, wrd ws), (117, ia sgl), (118, ia nbl)])) rfl rfl rfl rfl hlen rfl rfl rfl ((x_isMarkHere (ov_hl hlen) (ov_at rfl (ov_lt hlen (by decide))) hk5 (c := 40) (s := sv) (by decide) sv1 sv2).up (by omega)) rfl ?_
              rw [g]
              refine RT_step (pc2 := 8) rfl (fun _ _ => rfl) ?_
              refine RT_step (pc2 := 10) rfl (fun _ _ => rfl) ?_
              refine bcT_ne rfl rfl ?_
              refine RT_step (pc2 := 14) rfl (fun _ _ => rfl) ?_
              refine ow_gf rfl rfl rfl hlen rfl ?_
              refine ow_is1 (l2 := ((1, tcl n lim a kd pl 24 le nu tk (Int32.ofNat 0) fp) :: (2, bcl bs) :: [(13, dcl13 P Dn lw cl id gl bo), (14, lng pn), (15, ia ri), (16, ia lf), (17, ia wa), (18, ia fo), (19, lng dn), (20, ia ha), (21, ia pa), (22, ia bl), (115, .inr (7, [.int (Int32.ofNat o), .int (Int32.ofNat s), .ref 116, .ref 117, .ref 118, .ref 119])), (116, wrd ws), (117, ia sgl), (118, ia nbl)])) rfl rfl rfl rfl rfl ((x_beg_t (H := ov H ((1, tcl n lim a kd pl 24 le nu tk (Int32.ofNat 0) fp) :: (2, bcl bs) :: [(13, dcl13 P Dn lw cl id gl bo), (14, lng pn), (15, ia ri), (16, ia lf), (17, ia wa), (18, ia fo), (19, lng dn), (20, ia ha), (21, ia pa), (22, ia bl), (115, .inr (7, [.int (Int32.ofNat o), .int (Int32.ofNat s), .ref 116, .ref 117, .ref 118, .ref 119])), (116, wrd ws), (117, ia sgl), (118, ia nbl)])) (by decide)).up (by omega)) rfl ?_
              refine bcF_ne rfl (by decide) ?_
              refine RT_step (pc2 := 30) rfl (fun _ _ => rfl) ?_
              refine ow_gf rfl rfl rfl hlen rfl ?_
              refine rt_bip rfl k8_20 ?_
              refine biT_ge rfl (n_le (by omega) (by omega)) ?_
              refine RT_step (pc2 := 45) rfl (fun _ _ => rfl) ?_
              refine rt_ico rfl ki_4 ?_
              refine ow_iv1 (l2 := ((1, T) :: (2, bcl bs) :: [(13, dcl13 P Dn lw cl id gl bo), (14, lng pn), (15, ia ri), (16, ia lf), (17, ia wa), (18, ia fo), (19, lng dn), (20, ia ha), (21, ia pa), (22, ia bl), (115, .inr (7, [.int (Int32.ofNat o), .int (Int32.ofNat s), .ref 116, .ref 117, .ref 118, .ref 119])), (116, wrd ws), (117, ia sgl), (118, ia nbl)])) rfl rfl rfl rfl hlen rfl rfl rfl ((hx _ (ov_hl hlen) (ov_at rfl (ov_lt hlen (by decide))) (ov_at rfl (ov_lt hlen (by decide)))).up (by omega)) rfl ?_
              exact ow_irt rfl rfl rfl
            · refine FR_st2 (l2 := ((180, M) :: (181, mtl ts) :: [(182, ia nw), (187, lng nz), (202, ia nl)])) rfl rfl rfl ?_
              refine RT_step (pc2 := 1) rfl (fun _ _ => rfl) ?_
              refine rt_bip rfl k8_40 ?_
              refine ow_iv1 (l2 := ((180, mcl (Int32.ofNat 0) (Int32.ofNat 0) n lim a pl (km kd) nm sg (Int32.ofNat 0) qm wd td (posn vs nn o wi tp)) :: (181, mtl ts) :: [(182, ia nw), (187, lng nz), (202, ia nl)])) rfl rfl rfl rfl hlen rfl rfl rfl ((m_isSign (ov_hl hlen) (ov_at rfl (ov_lt hlen (by decide))) hk (c := 40) (s := sv) (by decide) sv1 sv3).up (by omega)) rfl ?_
              refine RT_step (pc2 := 7) rfl (fun _ _ => rfl) ?_
              rw [bq, g]
              refine rt_bip rfl k8_19 ?_
              refine RT_step (pc2 := 10) rfl (fun _ _ => rfl) ?_
              refine m_wl (z := b01 false) hlen hk 11 19 _ rfl rfl rfl rfl (fun L2 l0 l1 l2 => ?_)
              rw [wj_eq t 11 19 rfl, jw] at l2
              refine rt_ild rfl l1 ?_
              refine bcT_ne rfl rfl ?_
              refine rt_ild rfl l2 ?_
              refine rt_bip rfl k8_29 ?_
              refine biT_le rfl (n_le (by omega) (by omega)) ?_
              refine rt_ald rfl l0 ?_
              refine ow_gf rfl rfl rfl hlen rfl ?_
              refine rt_bip rfl k8_20 ?_
              refine biT_eq rfl (n_eq co) ?_
              refine rt_ald rfl l0 ?_
              refine rt_ico rfl ki_4 ?_
              refine ow_iv1 (l2 := ((180, M) :: (181, mtl ts) :: [(182, ia nw), (187, lng nz), (202, ia nl)])) rfl rfl rfl rfl hlen rfl rfl rfl ((hm _ (ov_hl hlen) (ov_at rfl (ov_lt hlen (by decide))) (ov_at rfl (ov_lt hlen (by decide)))).up (by omega)) rfl ?_
              exact ow_irt rfl rfl rfl
          · refine ⟨fun H hlen => ?_, fun H hlen => ?_⟩
            · refine FR_st2 (l2 := ((1, T) :: (2, bcl bs) :: [(13, dcl13 P Dn lw cl id gl bo), (14, lng pn), (15, ia ri), (16, ia lf), (17, ia wa), (18, ia fo), (19, lng dn), (20, ia ha), (21, ia pa), (22, ia bl), (115, .inr (7, [.int (Int32.ofNat o), .int (Int32.ofNat s), .ref 116, .ref 117, .ref 118, .ref 119])), (116, wrd ws), (117, ia sgl), (118, ia nbl)])) rfl rfl rfl ?_
              refine RT_step (pc2 := 1) rfl (fun _ _ => rfl) ?_
              refine rt_bip rfl k8_40 ?_
              refine ow_iv1 (l2 := ((1, tcl n lim a kd pl 24 le nu tk (Int32.ofNat 0) fp) :: (2, bcl bs) :: [(13, dcl13 P Dn lw cl id gl bo), (14, lng pn), (15, ia ri), (16, ia lf), (17, ia wa), (18, ia fo), (19, lng dn), (20, ia ha), (21, ia pa), (22, ia bl), (115, .inr (7, [.int (Int32.ofNat o), .int (Int32.ofNat s), .ref 116, .ref 117, .ref 118, .ref 119])), (116, wrd ws), (117, ia sgl), (118, ia nbl)])) rfl rfl rfl rfl hlen rfl rfl rfl ((x_isMarkHere (ov_hl hlen) (ov_at rfl (ov_lt hlen (by decide))) hk5 (c := 40) (s := sv) (by decide) sv1 sv2).up (by omega)) rfl ?_
              rw [g]
              refine RT_step (pc2 := 8) rfl (fun _ _ => rfl) ?_
              refine RT_step (pc2 := 10) rfl (fun _ _ => rfl) ?_
              refine bcT_ne rfl rfl ?_
              refine RT_step (pc2 := 14) rfl (fun _ _ => rfl) ?_
              refine ow_gf rfl rfl rfl hlen rfl ?_
              refine ow_is1 (l2 := ((1, tcl n lim a kd pl 24 le nu tk (Int32.ofNat 0) fp) :: (2, bcl bs) :: [(13, dcl13 P Dn lw cl id gl bo), (14, lng pn), (15, ia ri), (16, ia lf), (17, ia wa), (18, ia fo), (19, lng dn), (20, ia ha), (21, ia pa), (22, ia bl), (115, .inr (7, [.int (Int32.ofNat o), .int (Int32.ofNat s), .ref 116, .ref 117, .ref 118, .ref 119])), (116, wrd ws), (117, ia sgl), (118, ia nbl)])) rfl rfl rfl rfl rfl ((x_beg_t (H := ov H ((1, tcl n lim a kd pl 24 le nu tk (Int32.ofNat 0) fp) :: (2, bcl bs) :: [(13, dcl13 P Dn lw cl id gl bo), (14, lng pn), (15, ia ri), (16, ia lf), (17, ia wa), (18, ia fo), (19, lng dn), (20, ia ha), (21, ia pa), (22, ia bl), (115, .inr (7, [.int (Int32.ofNat o), .int (Int32.ofNat s), .ref 116, .ref 117, .ref 118, .ref 119])), (116, wrd ws), (117, ia sgl), (118, ia nbl)])) (by decide)).up (by omega)) rfl ?_
              refine bcF_ne rfl (by decide) ?_
              refine RT_step (pc2 := 30) rfl (fun _ _ => rfl) ?_
              refine ow_gf rfl rfl rfl hlen rfl ?_
              refine rt_bip rfl k8_20 ?_
              refine biF_ge rfl (n_nle (by omega) (by omega)) ?_
              refine RT_step (pc2 := 39) rfl (fun _ _ => rfl) ?_
              refine rt_bip rfl k8_8 ?_
              refine biF_le rfl (n_nle (by omega) (by omega)) ?_
              refine RT_step (pc2 := 45) rfl (fun _ _ => rfl) ?_
              refine rt_ico rfl ki_4 ?_
              refine ow_iv1 (l2 := ((1, T) :: (2, bcl bs) :: [(13, dcl13 P Dn lw cl id gl bo), (14, lng pn), (15, ia ri), (16, ia lf), (17, ia wa), (18, ia fo), (19, lng dn), (20, ia ha), (21, ia pa), (22, ia bl), (115, .inr (7, [.int (Int32.ofNat o), .int (Int32.ofNat s), .ref 116, .ref 117, .ref 118, .ref 119])), (116, wrd ws), (117, ia sgl), (118, ia nbl)])) rfl rfl rfl rfl hlen rfl rfl rfl ((hx _ (ov_hl hlen) (ov_at rfl (ov_lt hlen (by decide))) (ov_at rfl (ov_lt hlen (by decide)))).up (by omega)) rfl ?_
              exact ow_irt rfl rfl rfl
            · refine FR_st2 (l2 := ((180, M) :: (181, mtl ts) :: [(182, ia nw), (187, lng nz), (202, ia nl)])) rfl rfl rfl ?_
              refine RT_step (pc2 := 1) rfl (fun _ _ => rfl) ?_
              refine rt_bip rfl k8_40 ?_
              refine ow_iv1 (l2 := ((180, mcl (Int32.ofNat 0) (Int32.ofNat 0) n lim a pl (km kd) nm sg (Int32.ofNat 0) qm wd td (posn vs nn o wi tp)) :: (181, mtl ts) :: [(182, ia nw), (187, lng nz), (202, ia nl)])) rfl rfl rfl rfl hlen rfl rfl rfl ((m_isSign (ov_hl hlen) (ov_at rfl (ov_lt hlen (by decide))) hk (c := 40) (s := sv) (by decide) sv1 sv3).up (by omega)) rfl ?_
              refine RT_step (pc2 := 7) rfl (fun _ _ => rfl) ?_
              rw [bq, g]
              refine rt_bip rfl k8_19 ?_
              refine RT_step (pc2 := 10) rfl (fun _ _ => rfl) ?_
              refine m_wl (z := b01 false) hlen hk 11 19 _ rfl rfl rfl rfl (fun L2 l0 l1 l2 => ?_)
              rw [wj_eq t 11 19 rfl, jw] at l2
              refine rt_ild rfl l1 ?_
              refine bcT_ne rfl rfl ?_
              refine rt_ild rfl l2 ?_
              refine rt_bip rfl k8_29 ?_
              refine biT_le rfl (n_le (by omega) (by omega)) ?_
              refine rt_ald rfl l0 ?_
              refine ow_gf rfl rfl rfl hlen rfl ?_
              refine rt_bip rfl k8_20 ?_
              refine biF_eq rfl (n_ne co (by omega) (by omega)) ?_
              refine rt_ald rfl l0 ?_
              refine ow_gf rfl rfl rfl hlen rfl ?_
              refine rt_bip rfl k8_8 ?_
              refine biT_ne rfl (n_eq (by omega)) ?_
              refine rt_ald rfl l0 ?_
              refine rt_ico rfl ki_4 ?_
              refine ow_iv1 (l2 := ((180, M) :: (181, mtl ts) :: [(182, ia nw), (187, lng nz), (202, ia nl)])) rfl rfl rfl rfl hlen rfl rfl rfl ((hm _ (ov_hl hlen) (ov_at rfl (ov_lt hlen (by decide))) (ov_at rfl (ov_lt hlen (by decide)))).up (by omega)) rfl ?_
              exact ow_irt rfl rfl rfl
        · obtain ⟨T1, M1, c1, x1, m1⟩ := s_adv hB hM hb hn hl (po := (posn vs nn (o + 1) (wi + 1) tp)) (pl := pl) (tk := tk) (td := td) (fp := fp) (plM := qm) t (by omega) (by omega)
          obtain ⟨a1, kd1, pl1, w1, le1, nu1, fp1, nm1, sg1, qm1, wd1, rfl, rfl, t1⟩ := c1
          obtain ⟨s2, ws2, sl2, nb2, sx2, hadd⟩ := sx_add115 sx (w := 24) (by decide) (Int32.ofNat 0) (Int32.ofNat 0)
          refine Or.inr ⟨(k + 1), tk, td, tcl n lim a1 kd1 pl1 w1 le1 nu1 tk (Int32.ofNat 0) fp1, mcl (Int32.ofNat 0) (Int32.ofNat 0) n lim a1 pl1 (km kd1) nm1 sg1 (Int32.ofNat 0) qm1 wd1 td (posn vs (nn + 1) (o + 1) wi nn), (o + 1), s2, (nn + 1), nn, ws2, sl2, nb2, ((((nl.set (4 * nn) (Int32.ofNat (50 + j))).set (4 * nn + 1) (Int32.ofNat 0)).set (4 * nn + 2) (Int32.ofNat 0)).set (4 * nn + 3) (Int32.ofNat 0)), (tf_td t1), by omega, by omega, by omega, by omega, ?_, ?_, fun H hlen => ?_, fun H hlen => ?_⟩
          · exact sx2
          · simp only [List.length_set]; exact ln
          · refine FR_st2 (l2 := ((1, tcl n lim a1 kd1 pl1 w1 le1 nu1 tk (Int32.ofNat 0) fp1) :: (2, bcl bs) :: [(13, dcl13 P Dn lw cl id gl bo), (14, lng pn), (15, ia ri), (16, ia lf), (17, ia wa), (18, ia fo), (19, lng dn), (20, ia ha), (21, ia pa), (22, ia bl), (115, .inr (7, [.int (Int32.ofNat (o + 1)), .int (Int32.ofNat s2), .ref 116, .ref 117, .ref 118, .ref 119])), (116, wrd ws2), (117, ia sl2), (118, ia nb2)])) rfl rfl rfl ?_
            refine RT_step (pc2 := 1) rfl (fun _ _ => rfl) ?_
            refine rt_bip rfl k8_40 ?_
            refine ow_iv1 (l2 := ((1, tcl n lim a kd pl 24 le nu tk (Int32.ofNat 0) fp) :: (2, bcl bs) :: [(13, dcl13 P Dn lw cl id gl bo), (14, lng pn), (15, ia ri), (16, ia lf), (17, ia wa), (18, ia fo), (19, lng dn), (20, ia ha), (21, ia pa), (22, ia bl), (115, .inr (7, [.int (Int32.ofNat o), .int (Int32.ofNat s), .ref 116, .ref 117, .ref 118, .ref 119])), (116, wrd ws), (117, ia sgl), (118, ia nbl)])) rfl rfl rfl rfl hlen rfl rfl rfl ((x_isMarkHere (ov_hl hlen) (ov_at rfl (ov_lt hlen (by decide))) hk5 (c := 40) (s := sv) (by decide) sv1 sv2).up (by omega)) rfl ?_
            rw [g]
            refine RT_step (pc2 := 8) rfl (fun _ _ => rfl) ?_
            refine RT_step (pc2 := 10) rfl (fun _ _ => rfl) ?_
            refine bcT_ne rfl rfl ?_
            refine RT_step (pc2 := 14) rfl (fun _ _ => rfl) ?_
            refine ow_gf rfl rfl rfl hlen rfl ?_
            refine ow_is1 (l2 := ((1, tcl n lim a kd pl 24 le nu tk (Int32.ofNat 0) fp) :: (2, bcl bs) :: [(13, dcl13 P Dn lw cl id gl bo), (14, lng pn), (15, ia ri), (16, ia lf), (17, ia wa), (18, ia fo), (19, lng dn), (20, ia ha), (21, ia pa), (22, ia bl), (115, .inr (7, [.int (Int32.ofNat o), .int (Int32.ofNat s), .ref 116, .ref 117, .ref 118, .ref 119])), (116, wrd ws), (117, ia sgl), (118, ia nbl)])) rfl rfl rfl rfl rfl ((x_beg_t (H := ov H ((1, tcl n lim a kd pl 24 le nu tk (Int32.ofNat 0) fp) :: (2, bcl bs) :: [(13, dcl13 P Dn lw cl id gl bo), (14, lng pn), (15, ia ri), (16, ia lf), (17, ia wa), (18, ia fo), (19, lng dn), (20, ia ha), (21, ia pa), (22, ia bl), (115, .inr (7, [.int (Int32.ofNat o), .int (Int32.ofNat s), .ref 116, .ref 117, .ref 118, .ref 119])), (116, wrd ws), (117, ia sgl), (118, ia nbl)])) (by decide)).up (by omega)) rfl ?_
            refine bcF_ne rfl (by decide) ?_
            refine RT_step (pc2 := 30) rfl (fun _ _ => rfl) ?_
            refine ow_gf rfl rfl rfl hlen rfl ?_
            refine rt_bip rfl k8_20 ?_
            refine biF_ge rfl (n_nle (by omega) (by omega)) ?_
            refine RT_step (pc2 := 39) rfl (fun _ _ => rfl) ?_
            refine rt_bip rfl k8_8 ?_
            refine biT_le rfl (n_le (by omega) (by omega)) ?_
            refine RT_step (pc2 := 51) rfl (fun _ _ => rfl) ?_
            refine RT_step (pc2 := 52) rfl (fun _ _ => rfl) ?_
            refine ow_gf rfl rfl rfl hlen rfl ?_
            refine rt_ico rfl ki_1 ?_
            refine ba_iadd rfl ?_
            rw [n_add]
            refine ow_pf (l2 := ((1, tcl n lim a kd pl 24 le nu tk (Int32.ofNat 0) fp) :: (2, bcl bs) :: [(13, dcl13 P Dn lw cl id gl bo), (14, lng pn), (15, ia ri), (16, ia lf), (17, ia wa), (18, ia fo), (19, lng dn), (20, ia ha), (21, ia pa), (22, ia bl), (115, .inr (7, [.int (Int32.ofNat (o + 1)), .int (Int32.ofNat s), .ref 116, .ref 117, .ref 118, .ref 119])), (116, wrd ws), (117, ia sgl), (118, ia nbl)])) rfl rfl rfl rfl rfl hlen rfl rfl ?_
            refine RT_step (pc2 := 61) rfl (fun _ _ => rfl) ?_
            refine ow_gf rfl rfl rfl hlen rfl ?_
            refine RT_step (pc2 := 66) rfl (fun _ _ => rfl) ?_
            refine RT_step (pc2 := 67) rfl (fun _ _ => rfl) ?_
            refine ow_iv0 (l2 := ((1, tcl n lim a1 kd1 pl1 w1 le1 nu1 tk (Int32.ofNat 0) fp1) :: (2, bcl bs) :: [(13, dcl13 P Dn lw cl id gl bo), (14, lng pn), (15, ia ri), (16, ia lf), (17, ia wa), (18, ia fo), (19, lng dn), (20, ia ha), (21, ia pa), (22, ia bl), (115, .inr (7, [.int (Int32.ofNat (o + 1)), .int (Int32.ofNat s), .ref 116, .ref 117, .ref 118, .ref 119])), (116, wrd ws), (117, ia sgl), (118, ia nbl)])) rfl rfl rfl rfl hlen rfl rfl rfl ((x1 _ (ov_hl hlen) (ov_at rfl (ov_lt hlen (by decide))) (ov_at rfl (ov_lt hlen (by decide)))).up (by omega)) rfl ?_
            refine RT_step (pc2 := 72) rfl (fun _ _ => rfl) ?_
            refine bcT_eq rfl rfl ?_
            refine RT_step (pc2 := 105) rfl (fun _ _ => rfl) ?_
            refine RT_step (pc2 := 107) rfl (fun _ _ => rfl) ?_
            refine rt_ord rfl (by decide) rfl ?_
            refine rt_isw rfl (v := 24) (by decide +kernel) ?_
            refine rt_tsD (t := 185) rfl (by decide) rfl ?_
            refine RT_step (pc2 := 186) rfl (fun _ _ => rfl) ?_
            refine RT_step (pc2 := 188) rfl (fun _ _ => rfl) ?_
            refine rt_ico rfl ki_0 ?_
            refine rt_ico rfl ki_0 ?_
            refine ow_iv0 (l2 := ((1, tcl n lim a1 kd1 pl1 w1 le1 nu1 tk (Int32.ofNat 0) fp1) :: (2, bcl bs) :: [(13, dcl13 P Dn lw cl id gl bo), (14, lng pn), (15, ia ri), (16, ia lf), (17, ia wa), (18, ia fo), (19, lng dn), (20, ia ha), (21, ia pa), (22, ia bl), (115, .inr (7, [.int (Int32.ofNat (o + 1)), .int (Int32.ofNat s2), .ref 116, .ref 117, .ref 118, .ref 119])), (116, wrd ws2), (117, ia sl2), (118, ia nb2)])) rfl rfl rfl rfl hlen rfl rfl rfl ((hadd _ _ (ov_hl hlen) (ov_at rfl (ov_lt hlen (by decide))) (ov_at rfl (ov_lt hlen (by decide))) (ov_at rfl (ov_lt hlen (by decide))) (ov_at rfl (ov_lt hlen (by decide)))).up (by omega)) rfl ?_
            refine rt_ico rfl ki_1 ?_
            exact ow_irt rfl rfl rfl
          · refine FR_st2 (l2 := ((180, mcl (Int32.ofNat 0) (Int32.ofNat 0) n lim a1 pl1 (km kd1) nm1 sg1 (Int32.ofNat 0) qm1 wd1 td (posn vs (nn + 1) (o + 1) wi nn)) :: (181, mtl ts) :: [(182, ia nw), (187, lng nz), (202, ia ((((nl.set (4 * nn) (Int32.ofNat (50 + j))).set (4 * nn + 1) (Int32.ofNat 0)).set (4 * nn + 2) (Int32.ofNat 0)).set (4 * nn + 3) (Int32.ofNat 0)))])) rfl rfl rfl ?_
            refine RT_step (pc2 := 1) rfl (fun _ _ => rfl) ?_
            refine rt_bip rfl k8_40 ?_
            refine ow_iv1 (l2 := ((180, mcl (Int32.ofNat 0) (Int32.ofNat 0) n lim a pl (km kd) nm sg (Int32.ofNat 0) qm wd td (posn vs nn o wi tp)) :: (181, mtl ts) :: [(182, ia nw), (187, lng nz), (202, ia nl)])) rfl rfl rfl rfl hlen rfl rfl rfl ((m_isSign (ov_hl hlen) (ov_at rfl (ov_lt hlen (by decide))) hk (c := 40) (s := sv) (by decide) sv1 sv3).up (by omega)) rfl ?_
            refine RT_step (pc2 := 7) rfl (fun _ _ => rfl) ?_
            rw [bq, g]
            refine rt_bip rfl k8_19 ?_
            refine RT_step (pc2 := 10) rfl (fun _ _ => rfl) ?_
            refine m_wl (z := b01 false) hlen hk 11 19 _ rfl rfl rfl rfl (fun L2 l0 l1 l2 => ?_)
            rw [wj_eq t 11 19 rfl, jw] at l2
            refine rt_ild rfl l1 ?_
            refine bcT_ne rfl rfl ?_
            refine rt_ild rfl l2 ?_
            refine rt_bip rfl k8_29 ?_
            refine biT_le rfl (n_le (by omega) (by omega)) ?_
            refine rt_ald rfl l0 ?_
            refine ow_gf rfl rfl rfl hlen rfl ?_
            refine rt_bip rfl k8_20 ?_
            refine biF_eq rfl (n_ne (by omega) (by omega) (by omega)) ?_
            refine rt_ald rfl l0 ?_
            refine ow_gf rfl rfl rfl hlen rfl ?_
            refine rt_bip rfl k8_8 ?_
            refine biF_ne rfl (n_ne (by omega) (by omega) (by omega)) ?_
            refine rt_ald rfl l0 ?_
            refine RT_step (pc2 := 72) rfl (fun _ _ => rfl) ?_
            refine ow_gf rfl rfl rfl hlen rfl ?_
            refine rt_ico rfl ki_1 ?_
            refine ba_iadd rfl ?_
            rw [n_add]
            refine ow_pf (l2 := ((180, mcl (Int32.ofNat 0) (Int32.ofNat 0) n lim a pl (km kd) nm sg (Int32.ofNat 0) qm wd td (posn vs nn (o + 1) wi tp)) :: (181, mtl ts) :: [(182, ia nw), (187, lng nz), (202, ia nl)])) rfl rfl rfl rfl rfl hlen rfl rfl ?_
            refine rt_ald rfl l0 ?_
            refine RT_step (pc2 := 82) rfl (fun _ _ => rfl) ?_
            refine ow_gf rfl rfl rfl hlen rfl ?_
            refine rt_ico rfl ki_1 ?_
            refine ba_iadd rfl ?_
            rw [n_add]
            refine ow_pf (l2 := ((180, mcl (Int32.ofNat 0) (Int32.ofNat 0) n lim a pl (km kd) nm sg (Int32.ofNat 0) qm wd td (posn vs nn (o + 1) (wi + 1) tp)) :: (181, mtl ts) :: [(182, ia nw), (187, lng nz), (202, ia nl)])) rfl rfl rfl rfl rfl hlen rfl rfl ?_
            refine rt_ald rfl l0 ?_
            refine ow_iv0 (l2 := ((180, mcl (Int32.ofNat 0) (Int32.ofNat 0) n lim a1 pl1 (km kd1) nm1 sg1 (Int32.ofNat 0) qm1 wd1 td (posn vs nn (o + 1) (wi + 1) tp)) :: (181, mtl ts) :: [(182, ia nw), (187, lng nz), (202, ia nl)])) rfl rfl rfl rfl hlen rfl rfl rfl ((m1 _ (ov_hl hlen) (ov_at rfl (ov_lt hlen (by decide))) (ov_at rfl (ov_lt hlen (by decide)))).up (by omega)) rfl ?_
            refine rt_ico rfl ki_1 ?_
            refine rt_ist rfl (by decide +kernel) ?_
            refine rt_ild rfl (gs_o rfl l1 rfl) ?_
            refine bcT_eq rfl rfl ?_
            refine rt_ild rfl (gs_o rfl l2 rfl) ?_
            refine rt_bip rfl k8_19 ?_
            refine biF_ne rfl (n_ne (by omega) (by omega) (by omega)) ?_
            refine rt_ild rfl (gs_o rfl l2 rfl) ?_
            refine rt_bip rfl k8_25 ?_
            refine biF_ge rfl (n_nle (by omega) (by omega)) ?_
            refine rt_ald rfl (gs_o rfl l0 rfl) ?_
            refine rt_ald rfl (gs_o rfl l0 rfl) ?_
            refine rt_bip rfl k8_50 ?_
            refine rt_ild rfl (gs_o rfl l2 rfl) ?_
            refine ba_iadd rfl ?_
            rw [n_add]
            refine rt_ico rfl ki_0 ?_
            refine rt_ico rfl ki_0 ?_
            refine rt_ico rfl ki_0 ?_
            refine ow_iv1 (l2 := ((180, mcl (Int32.ofNat 0) (Int32.ofNat 0) n lim a1 pl1 (km kd1) nm1 sg1 (Int32.ofNat 0) qm1 wd1 td (posn vs (nn + 1) (o + 1) (wi + 1) tp)) :: (181, mtl ts) :: [(182, ia nw), (187, lng nz), (202, ia ((((nl.set (4 * nn) (Int32.ofNat (50 + j))).set (4 * nn + 1) (Int32.ofNat 0)).set (4 * nn + 2) (Int32.ofNat 0)).set (4 * nn + 3) (Int32.ofNat 0)))])) rfl rfl rfl rfl hlen rfl rfl rfl ((m_says (ov_hl hlen) (ov_at rfl (ov_lt hlen (by decide))) (ov_at rfl (ov_lt hlen (by decide))) ln (by omega)).up (by omega)) rfl ?_
            refine ow_pf (l2 := ((180, mcl (Int32.ofNat 0) (Int32.ofNat 0) n lim a1 pl1 (km kd1) nm1 sg1 (Int32.ofNat 0) qm1 wd1 td (posn vs (nn + 1) (o + 1) (wi + 1) nn)) :: (181, mtl ts) :: [(182, ia nw), (187, lng nz), (202, ia ((((nl.set (4 * nn) (Int32.ofNat (50 + j))).set (4 * nn + 1) (Int32.ofNat 0)).set (4 * nn + 2) (Int32.ofNat 0)).set (4 * nn + 3) (Int32.ofNat 0)))])) rfl rfl rfl rfl rfl hlen rfl rfl ?_
            refine RT_step (pc2 := 166) rfl (fun _ _ => rfl) ?_
            refine rt_ald rfl (gs_o rfl l0 rfl) ?_
            refine RT_step (pc2 := 168) rfl (fun _ _ => rfl) ?_
            refine ow_gf rfl rfl rfl hlen rfl ?_
            refine rt_ico rfl ki_1 ?_
            refine ba_isub rfl ?_
            rw [n_sub (by omega), Nat.add_sub_cancel]
            refine ow_pf (l2 := ((180, mcl (Int32.ofNat 0) (Int32.ofNat 0) n lim a1 pl1 (km kd1) nm1 sg1 (Int32.ofNat 0) qm1 wd1 td (posn vs (nn + 1) (o + 1) wi nn)) :: (181, mtl ts) :: [(182, ia nw), (187, lng nz), (202, ia ((((nl.set (4 * nn) (Int32.ofNat (50 + j))).set (4 * nn + 1) (Int32.ofNat 0)).set (4 * nn + 2) (Int32.ofNat 0)).set (4 * nn + 3) (Int32.ofNat 0)))])) rfl rfl rfl rfl rfl hlen rfl rfl ?_
            refine rt_ild rfl gs_n ?_
            exact ow_irt rfl rfl rfl
      · have hk1 := w_k1 t (by omega)
        by_cases cf : o = 20 ∨ wi = 8
        · obtain ⟨T, M, f, hx, hm⟩ := s_ref (bs := bs) (ts := ts) (lim := lim) (po := (posn vs nn o wi tp)) (pl := pl) (tk := tk) (td := td) (fp := fp) (plM := qm) t (kk := 4) (by decide) (by decide) (Or.inl (by omega))
          refine Or.inl ⟨T, M, o, s, nn, tp, ws, sgl, nbl, nl, f, sx, ?_⟩
          by_cases co : o = 20
          · refine ⟨fun H hlen => ?_, fun H hlen => ?_⟩
            · refine FR_st2 (l2 := ((1, T) :: (2, bcl bs) :: [(13, dcl13 P Dn lw cl id gl bo), (14, lng pn), (15, ia ri), (16, ia lf), (17, ia wa), (18, ia fo), (19, lng dn), (20, ia ha), (21, ia pa), (22, ia bl), (115, .inr (7, [.int (Int32.ofNat o), .int (Int32.ofNat s), .ref 116, .ref 117, .ref 118, .ref 119])), (116, wrd ws), (117, ia sgl), (118, ia nbl)])) rfl rfl rfl ?_
              refine RT_step (pc2 := 1) rfl (fun _ _ => rfl) ?_
              refine rt_bip rfl k8_40 ?_
              refine ow_iv1 (l2 := ((1, tcl n lim a kd pl 25 le nu tk (Int32.ofNat 0) fp) :: (2, bcl bs) :: [(13, dcl13 P Dn lw cl id gl bo), (14, lng pn), (15, ia ri), (16, ia lf), (17, ia wa), (18, ia fo), (19, lng dn), (20, ia ha), (21, ia pa), (22, ia bl), (115, .inr (7, [.int (Int32.ofNat o), .int (Int32.ofNat s), .ref 116, .ref 117, .ref 118, .ref 119])), (116, wrd ws), (117, ia sgl), (118, ia nbl)])) rfl rfl rfl rfl hlen rfl rfl rfl ((x_isMarkHere (ov_hl hlen) (ov_at rfl (ov_lt hlen (by decide))) hk5 (c := 40) (s := sv) (by decide) sv1 sv2).up (by omega)) rfl ?_
              rw [g]
              refine RT_step (pc2 := 8) rfl (fun _ _ => rfl) ?_
              refine RT_step (pc2 := 10) rfl (fun _ _ => rfl) ?_
              refine bcT_ne rfl rfl ?_
              refine RT_step (pc2 := 14) rfl (fun _ _ => rfl) ?_
              refine ow_gf rfl rfl rfl hlen rfl ?_
              refine ow_is1 (l2 := ((1, tcl n lim a kd pl 25 le nu tk (Int32.ofNat 0) fp) :: (2, bcl bs) :: [(13, dcl13 P Dn lw cl id gl bo), (14, lng pn), (15, ia ri), (16, ia lf), (17, ia wa), (18, ia fo), (19, lng dn), (20, ia ha), (21, ia pa), (22, ia bl), (115, .inr (7, [.int (Int32.ofNat o), .int (Int32.ofNat s), .ref 116, .ref 117, .ref 118, .ref 119])), (116, wrd ws), (117, ia sgl), (118, ia nbl)])) rfl rfl rfl rfl rfl ((x_beg_t (H := ov H ((1, tcl n lim a kd pl 25 le nu tk (Int32.ofNat 0) fp) :: (2, bcl bs) :: [(13, dcl13 P Dn lw cl id gl bo), (14, lng pn), (15, ia ri), (16, ia lf), (17, ia wa), (18, ia fo), (19, lng dn), (20, ia ha), (21, ia pa), (22, ia bl), (115, .inr (7, [.int (Int32.ofNat o), .int (Int32.ofNat s), .ref 116, .ref 117, .ref 118, .ref 119])), (116, wrd ws), (117, ia sgl), (118, ia nbl)])) (by decide)).up (by omega)) rfl ?_
              refine bcF_ne rfl (by decide) ?_
              refine RT_step (pc2 := 30) rfl (fun _ _ => rfl) ?_
              refine ow_gf rfl rfl rfl hlen rfl ?_
              refine rt_bip rfl k8_20 ?_
              refine biT_ge rfl (n_le (by omega) (by omega)) ?_
              refine RT_step (pc2 := 45) rfl (fun _ _ => rfl) ?_
              refine rt_ico rfl ki_4 ?_
              refine ow_iv1 (l2 := ((1, T) :: (2, bcl bs) :: [(13, dcl13 P Dn lw cl id gl bo), (14, lng pn), (15, ia ri), (16, ia lf), (17, ia wa), (18, ia fo), (19, lng dn), (20, ia ha), (21, ia pa), (22, ia bl), (115, .inr (7, [.int (Int32.ofNat o), .int (Int32.ofNat s), .ref 116, .ref 117, .ref 118, .ref 119])), (116, wrd ws), (117, ia sgl), (118, ia nbl)])) rfl rfl rfl rfl hlen rfl rfl rfl ((hx _ (ov_hl hlen) (ov_at rfl (ov_lt hlen (by decide))) (ov_at rfl (ov_lt hlen (by decide)))).up (by omega)) rfl ?_
              exact ow_irt rfl rfl rfl
            · refine FR_st2 (l2 := ((180, M) :: (181, mtl ts) :: [(182, ia nw), (187, lng nz), (202, ia nl)])) rfl rfl rfl ?_
              refine RT_step (pc2 := 1) rfl (fun _ _ => rfl) ?_
              refine rt_bip rfl k8_40 ?_
              refine ow_iv1 (l2 := ((180, mcl (Int32.ofNat 0) (Int32.ofNat 0) n lim a pl (km kd) nm sg (Int32.ofNat 0) qm wd td (posn vs nn o wi tp)) :: (181, mtl ts) :: [(182, ia nw), (187, lng nz), (202, ia nl)])) rfl rfl rfl rfl hlen rfl rfl rfl ((m_isSign (ov_hl hlen) (ov_at rfl (ov_lt hlen (by decide))) hk (c := 40) (s := sv) (by decide) sv1 sv3).up (by omega)) rfl ?_
              refine RT_step (pc2 := 7) rfl (fun _ _ => rfl) ?_
              rw [bq, g]
              refine rt_bip rfl k8_19 ?_
              refine RT_step (pc2 := 10) rfl (fun _ _ => rfl) ?_
              refine m_wl (z := b01 false) hlen hk 11 19 _ rfl rfl rfl rfl (fun L2 l0 l1 l2 => ?_)
              rw [wj_eq t 11 19 rfl, jw] at l2
              refine rt_ild rfl l1 ?_
              refine bcT_ne rfl rfl ?_
              refine rt_ild rfl l2 ?_
              refine rt_bip rfl k8_29 ?_
              refine biT_le rfl (n_le (by omega) (by omega)) ?_
              refine rt_ald rfl l0 ?_
              refine ow_gf rfl rfl rfl hlen rfl ?_
              refine rt_bip rfl k8_20 ?_
              refine biT_eq rfl (n_eq co) ?_
              refine rt_ald rfl l0 ?_
              refine rt_ico rfl ki_4 ?_
              refine ow_iv1 (l2 := ((180, M) :: (181, mtl ts) :: [(182, ia nw), (187, lng nz), (202, ia nl)])) rfl rfl rfl rfl hlen rfl rfl rfl ((hm _ (ov_hl hlen) (ov_at rfl (ov_lt hlen (by decide))) (ov_at rfl (ov_lt hlen (by decide)))).up (by omega)) rfl ?_
              exact ow_irt rfl rfl rfl
          · refine ⟨fun H hlen => ?_, fun H hlen => ?_⟩
            · refine FR_st2 (l2 := ((1, T) :: (2, bcl bs) :: [(13, dcl13 P Dn lw cl id gl bo), (14, lng pn), (15, ia ri), (16, ia lf), (17, ia wa), (18, ia fo), (19, lng dn), (20, ia ha), (21, ia pa), (22, ia bl), (115, .inr (7, [.int (Int32.ofNat o), .int (Int32.ofNat s), .ref 116, .ref 117, .ref 118, .ref 119])), (116, wrd ws), (117, ia sgl), (118, ia nbl)])) rfl rfl rfl ?_
              refine RT_step (pc2 := 1) rfl (fun _ _ => rfl) ?_
              refine rt_bip rfl k8_40 ?_
              refine ow_iv1 (l2 := ((1, tcl n lim a kd pl 25 le nu tk (Int32.ofNat 0) fp) :: (2, bcl bs) :: [(13, dcl13 P Dn lw cl id gl bo), (14, lng pn), (15, ia ri), (16, ia lf), (17, ia wa), (18, ia fo), (19, lng dn), (20, ia ha), (21, ia pa), (22, ia bl), (115, .inr (7, [.int (Int32.ofNat o), .int (Int32.ofNat s), .ref 116, .ref 117, .ref 118, .ref 119])), (116, wrd ws), (117, ia sgl), (118, ia nbl)])) rfl rfl rfl rfl hlen rfl rfl rfl ((x_isMarkHere (ov_hl hlen) (ov_at rfl (ov_lt hlen (by decide))) hk5 (c := 40) (s := sv) (by decide) sv1 sv2).up (by omega)) rfl ?_
              rw [g]
              refine RT_step (pc2 := 8) rfl (fun _ _ => rfl) ?_
              refine RT_step (pc2 := 10) rfl (fun _ _ => rfl) ?_
              refine bcT_ne rfl rfl ?_
              refine RT_step (pc2 := 14) rfl (fun _ _ => rfl) ?_
              refine ow_gf rfl rfl rfl hlen rfl ?_
              refine ow_is1 (l2 := ((1, tcl n lim a kd pl 25 le nu tk (Int32.ofNat 0) fp) :: (2, bcl bs) :: [(13, dcl13 P Dn lw cl id gl bo), (14, lng pn), (15, ia ri), (16, ia lf), (17, ia wa), (18, ia fo), (19, lng dn), (20, ia ha), (21, ia pa), (22, ia bl), (115, .inr (7, [.int (Int32.ofNat o), .int (Int32.ofNat s), .ref 116, .ref 117, .ref 118, .ref 119])), (116, wrd ws), (117, ia sgl), (118, ia nbl)])) rfl rfl rfl rfl rfl ((x_beg_t (H := ov H ((1, tcl n lim a kd pl 25 le nu tk (Int32.ofNat 0) fp) :: (2, bcl bs) :: [(13, dcl13 P Dn lw cl id gl bo), (14, lng pn), (15, ia ri), (16, ia lf), (17, ia wa), (18, ia fo), (19, lng dn), (20, ia ha), (21, ia pa), (22, ia bl), (115, .inr (7, [.int (Int32.ofNat o), .int (Int32.ofNat s), .ref 116, .ref 117, .ref 118, .ref 119])), (116, wrd ws), (117, ia sgl), (118, ia nbl)])) (by decide)).up (by omega)) rfl ?_
              refine bcF_ne rfl (by decide) ?_
              refine RT_step (pc2 := 30) rfl (fun _ _ => rfl) ?_
              refine ow_gf rfl rfl rfl hlen rfl ?_
              refine rt_bip rfl k8_20 ?_
              refine biF_ge rfl (n_nle (by omega) (by omega)) ?_
              refine RT_step (pc2 := 39) rfl (fun _ _ => rfl) ?_
              refine rt_bip rfl k8_8 ?_
              refine biF_le rfl (n_nle (by omega) (by omega)) ?_
              refine RT_step (pc2 := 45) rfl (fun _ _ => rfl) ?_
              refine rt_ico rfl ki_4 ?_
              refine ow_iv1 (l2 := ((1, T) :: (2, bcl bs) :: [(13, dcl13 P Dn lw cl id gl bo), (14, lng pn), (15, ia ri), (16, ia lf), (17, ia wa), (18, ia fo), (19, lng dn), (20, ia ha), (21, ia pa), (22, ia bl), (115, .inr (7, [.int (Int32.ofNat o), .int (Int32.ofNat s), .ref 116, .ref 117, .ref 118, .ref 119])), (116, wrd ws), (117, ia sgl), (118, ia nbl)])) rfl rfl rfl rfl hlen rfl rfl rfl ((hx _ (ov_hl hlen) (ov_at rfl (ov_lt hlen (by decide))) (ov_at rfl (ov_lt hlen (by decide)))).up (by omega)) rfl ?_
              exact ow_irt rfl rfl rfl
            · refine FR_st2 (l2 := ((180, M) :: (181, mtl ts) :: [(182, ia nw), (187, lng nz), (202, ia nl)])) rfl rfl rfl ?_
              refine RT_step (pc2 := 1) rfl (fun _ _ => rfl) ?_
              refine rt_bip rfl k8_40 ?_
              refine ow_iv1 (l2 := ((180, mcl (Int32.ofNat 0) (Int32.ofNat 0) n lim a pl (km kd) nm sg (Int32.ofNat 0) qm wd td (posn vs nn o wi tp)) :: (181, mtl ts) :: [(182, ia nw), (187, lng nz), (202, ia nl)])) rfl rfl rfl rfl hlen rfl rfl rfl ((m_isSign (ov_hl hlen) (ov_at rfl (ov_lt hlen (by decide))) hk (c := 40) (s := sv) (by decide) sv1 sv3).up (by omega)) rfl ?_
              refine RT_step (pc2 := 7) rfl (fun _ _ => rfl) ?_
              rw [bq, g]
              refine rt_bip rfl k8_19 ?_
              refine RT_step (pc2 := 10) rfl (fun _ _ => rfl) ?_
              refine m_wl (z := b01 false) hlen hk 11 19 _ rfl rfl rfl rfl (fun L2 l0 l1 l2 => ?_)
              rw [wj_eq t 11 19 rfl, jw] at l2
              refine rt_ild rfl l1 ?_
              refine bcT_ne rfl rfl ?_
              refine rt_ild rfl l2 ?_
              refine rt_bip rfl k8_29 ?_
              refine biT_le rfl (n_le (by omega) (by omega)) ?_
              refine rt_ald rfl l0 ?_
              refine ow_gf rfl rfl rfl hlen rfl ?_
              refine rt_bip rfl k8_20 ?_
              refine biF_eq rfl (n_ne co (by omega) (by omega)) ?_
              refine rt_ald rfl l0 ?_
              refine ow_gf rfl rfl rfl hlen rfl ?_
              refine rt_bip rfl k8_8 ?_
              refine biT_ne rfl (n_eq (by omega)) ?_
              refine rt_ald rfl l0 ?_
              refine rt_ico rfl ki_4 ?_
              refine ow_iv1 (l2 := ((180, M) :: (181, mtl ts) :: [(182, ia nw), (187, lng nz), (202, ia nl)])) rfl rfl rfl rfl hlen rfl rfl rfl ((hm _ (ov_hl hlen) (ov_at rfl (ov_lt hlen (by decide))) (ov_at rfl (ov_lt hlen (by decide)))).up (by omega)) rfl ?_
              exact ow_irt rfl rfl rfl
        · obtain ⟨T1, M1, c1, x1, m1⟩ := s_adv hB hM hb hn hl (po := (posn vs nn (o + 1) (wi + 1) tp)) (pl := pl) (tk := tk) (td := td) (fp := fp) (plM := qm) t (by omega) (by omega)
          obtain ⟨a1, kd1, pl1, w1, le1, nu1, fp1, nm1, sg1, qm1, wd1, rfl, rfl, t1⟩ := c1
          obtain ⟨s2, ws2, sl2, nb2, sx2, hadd⟩ := sx_add115 sx (w := 25) (by decide) (Int32.ofNat 0) (Int32.ofNat 0)
          refine Or.inr ⟨(k + 1), tk, td, tcl n lim a1 kd1 pl1 w1 le1 nu1 tk (Int32.ofNat 0) fp1, mcl (Int32.ofNat 0) (Int32.ofNat 0) n lim a1 pl1 (km kd1) nm1 sg1 (Int32.ofNat 0) qm1 wd1 td (posn vs (nn + 1) (o + 1) wi nn), (o + 1), s2, (nn + 1), nn, ws2, sl2, nb2, ((((nl.set (4 * nn) (Int32.ofNat (50 + j))).set (4 * nn + 1) (Int32.ofNat 0)).set (4 * nn + 2) (Int32.ofNat 0)).set (4 * nn + 3) (Int32.ofNat 0)), (tf_td t1), by omega, by omega, by omega, by omega, ?_, ?_, fun H hlen => ?_, fun H hlen => ?_⟩
          · exact sx2
          · simp only [List.length_set]; exact ln
          · refine FR_st2 (l2 := ((1, tcl n lim a1 kd1 pl1 w1 le1 nu1 tk (Int32.ofNat 0) fp1) :: (2, bcl bs) :: [(13, dcl13 P Dn lw cl id gl bo), (14, lng pn), (15, ia ri), (16, ia lf), (17, ia wa), (18, ia fo), (19, lng dn), (20, ia ha), (21, ia pa), (22, ia bl), (115, .inr (7, [.int (Int32.ofNat (o + 1)), .int (Int32.ofNat s2), .ref 116, .ref 117, .ref 118, .ref 119])), (116, wrd ws2), (117, ia sl2), (118, ia nb2)])) rfl rfl rfl ?_
            refine RT_step (pc2 := 1) rfl (fun _ _ => rfl) ?_
            refine rt_bip rfl k8_40 ?_
            refine ow_iv1 (l2 := ((1, tcl n lim a kd pl 25 le nu tk (Int32.ofNat 0) fp) :: (2, bcl bs) :: [(13, dcl13 P Dn lw cl id gl bo), (14, lng pn), (15, ia ri), (16, ia lf), (17, ia wa), (18, ia fo), (19, lng dn), (20, ia ha), (21, ia pa), (22, ia bl), (115, .inr (7, [.int (Int32.ofNat o), .int (Int32.ofNat s), .ref 116, .ref 117, .ref 118, .ref 119])), (116, wrd ws), (117, ia sgl), (118, ia nbl)])) rfl rfl rfl rfl hlen rfl rfl rfl ((x_isMarkHere (ov_hl hlen) (ov_at rfl (ov_lt hlen (by decide))) hk5 (c := 40) (s := sv) (by decide) sv1 sv2).up (by omega)) rfl ?_
            rw [g]
            refine RT_step (pc2 := 8) rfl (fun _ _ => rfl) ?_
            refine RT_step (pc2 := 10) rfl (fun _ _ => rfl) ?_
            refine bcT_ne rfl rfl ?_
            refine RT_step (pc2 := 14) rfl (fun _ _ => rfl) ?_
            refine ow_gf rfl rfl rfl hlen rfl ?_
            refine ow_is1 (l2 := ((1, tcl n lim a kd pl 25 le nu tk (Int32.ofNat 0) fp) :: (2, bcl bs) :: [(13, dcl13 P Dn lw cl id gl bo), (14, lng pn), (15, ia ri), (16, ia lf), (17, ia wa), (18, ia fo), (19, lng dn), (20, ia ha), (21, ia pa), (22, ia bl), (115, .inr (7, [.int (Int32.ofNat o), .int (Int32.ofNat s), .ref 116, .ref 117, .ref 118, .ref 119])), (116, wrd ws), (117, ia sgl), (118, ia nbl)])) rfl rfl rfl rfl rfl ((x_beg_t (H := ov H ((1, tcl n lim a kd pl 25 le nu tk (Int32.ofNat 0) fp) :: (2, bcl bs) :: [(13, dcl13 P Dn lw cl id gl bo), (14, lng pn), (15, ia ri), (16, ia lf), (17, ia wa), (18, ia fo), (19, lng dn), (20, ia ha), (21, ia pa), (22, ia bl), (115, .inr (7, [.int (Int32.ofNat o), .int (Int32.ofNat s), .ref 116, .ref 117, .ref 118, .ref 119])), (116, wrd ws), (117, ia sgl), (118, ia nbl)])) (by decide)).up (by omega)) rfl ?_
            refine bcF_ne rfl (by decide) ?_
            refine RT_step (pc2 := 30) rfl (fun _ _ => rfl) ?_
            refine ow_gf rfl rfl rfl hlen rfl ?_
            refine rt_bip rfl k8_20 ?_
            refine biF_ge rfl (n_nle (by omega) (by omega)) ?_
            refine RT_step (pc2 := 39) rfl (fun _ _ => rfl) ?_
            refine rt_bip rfl k8_8 ?_
            refine biT_le rfl (n_le (by omega) (by omega)) ?_
            refine RT_step (pc2 := 51) rfl (fun _ _ => rfl) ?_
            refine RT_step (pc2 := 52) rfl (fun _ _ => rfl) ?_
            refine ow_gf rfl rfl rfl hlen rfl ?_
            refine rt_ico rfl ki_1 ?_
            refine ba_iadd rfl ?_
            rw [n_add]
            refine ow_pf (l2 := ((1, tcl n lim a kd pl 25 le nu tk (Int32.ofNat 0) fp) :: (2, bcl bs) :: [(13, dcl13 P Dn lw cl id gl bo), (14, lng pn), (15, ia ri), (16, ia lf), (17, ia wa), (18, ia fo), (19, lng dn), (20, ia ha), (21, ia pa), (22, ia bl), (115, .inr (7, [.int (Int32.ofNat (o + 1)), .int (Int32.ofNat s), .ref 116, .ref 117, .ref 118, .ref 119])), (116, wrd ws), (117, ia sgl), (118, ia nbl)])) rfl rfl rfl rfl rfl hlen rfl rfl ?_
            refine RT_step (pc2 := 61) rfl (fun _ _ => rfl) ?_
            refine ow_gf rfl rfl rfl hlen rfl ?_
            refine RT_step (pc2 := 66) rfl (fun _ _ => rfl) ?_
            refine RT_step (pc2 := 67) rfl (fun _ _ => rfl) ?_
            refine ow_iv0 (l2 := ((1, tcl n lim a1 kd1 pl1 w1 le1 nu1 tk (Int32.ofNat 0) fp1) :: (2, bcl bs) :: [(13, dcl13 P Dn lw cl id gl bo), (14, lng pn), (15, ia ri), (16, ia lf), (17, ia wa), (18, ia fo), (19, lng dn), (20, ia ha), (21, ia pa), (22, ia bl), (115, .inr (7, [.int (Int32.ofNat (o + 1)), .int (Int32.ofNat s), .ref 116, .ref 117, .ref 118, .ref 119])), (116, wrd ws), (117, ia sgl), (118, ia nbl)])) rfl rfl rfl rfl hlen rfl rfl rfl ((x1 _ (ov_hl hlen) (ov_at rfl (ov_lt hlen (by decide))) (ov_at rfl (ov_lt hlen (by decide)))).up (by omega)) rfl ?_
            refine RT_step (pc2 := 72) rfl (fun _ _ => rfl) ?_
            refine bcT_eq rfl rfl ?_
            refine RT_step (pc2 := 105) rfl (fun _ _ => rfl) ?_
            refine RT_step (pc2 := 107) rfl (fun _ _ => rfl) ?_
            refine rt_ord rfl (by decide) rfl ?_
            refine rt_isw rfl (v := 25) (by decide +kernel) ?_
            refine rt_tsD (t := 185) rfl (by decide) rfl ?_
            refine RT_step (pc2 := 186) rfl (fun _ _ => rfl) ?_
            refine RT_step (pc2 := 188) rfl (fun _ _ => rfl) ?_
            refine rt_ico rfl ki_0 ?_
            refine rt_ico rfl ki_0 ?_
            refine ow_iv0 (l2 := ((1, tcl n lim a1 kd1 pl1 w1 le1 nu1 tk (Int32.ofNat 0) fp1) :: (2, bcl bs) :: [(13, dcl13 P Dn lw cl id gl bo), (14, lng pn), (15, ia ri), (16, ia lf), (17, ia wa), (18, ia fo), (19, lng dn), (20, ia ha), (21, ia pa), (22, ia bl), (115, .inr (7, [.int (Int32.ofNat (o + 1)), .int (Int32.ofNat s2), .ref 116, .ref 117, .ref 118, .ref 119])), (116, wrd ws2), (117, ia sl2), (118, ia nb2)])) rfl rfl rfl rfl hlen rfl rfl rfl ((hadd _ _ (ov_hl hlen) (ov_at rfl (ov_lt hlen (by decide))) (ov_at rfl (ov_lt hlen (by decide))) (ov_at rfl (ov_lt hlen (by decide))) (ov_at rfl (ov_lt hlen (by decide)))).up (by omega)) rfl ?_
            refine rt_ico rfl ki_1 ?_
            exact ow_irt rfl rfl rfl
          · refine FR_st2 (l2 := ((180, mcl (Int32.ofNat 0) (Int32.ofNat 0) n lim a1 pl1 (km kd1) nm1 sg1 (Int32.ofNat 0) qm1 wd1 td (posn vs (nn + 1) (o + 1) wi nn)) :: (181, mtl ts) :: [(182, ia nw), (187, lng nz), (202, ia ((((nl.set (4 * nn) (Int32.ofNat (50 + j))).set (4 * nn + 1) (Int32.ofNat 0)).set (4 * nn + 2) (Int32.ofNat 0)).set (4 * nn + 3) (Int32.ofNat 0)))])) rfl rfl rfl ?_
            refine RT_step (pc2 := 1) rfl (fun _ _ => rfl) ?_
            refine rt_bip rfl k8_40 ?_
            refine ow_iv1 (l2 := ((180, mcl (Int32.ofNat 0) (Int32.ofNat 0) n lim a pl (km kd) nm sg (Int32.ofNat 0) qm wd td (posn vs nn o wi tp)) :: (181, mtl ts) :: [(182, ia nw), (187, lng nz), (202, ia nl)])) rfl rfl rfl rfl hlen rfl rfl rfl ((m_isSign (ov_hl hlen) (ov_at rfl (ov_lt hlen (by decide))) hk (c := 40) (s := sv) (by decide) sv1 sv3).up (by omega)) rfl ?_
            refine RT_step (pc2 := 7) rfl (fun _ _ => rfl) ?_
            rw [bq, g]
            refine rt_bip rfl k8_19 ?_
            refine RT_step (pc2 := 10) rfl (fun _ _ => rfl) ?_
            refine m_wl (z := b01 false) hlen hk 11 19 _ rfl rfl rfl rfl (fun L2 l0 l1 l2 => ?_)
            rw [wj_eq t 11 19 rfl, jw] at l2
            refine rt_ild rfl l1 ?_
            refine bcT_ne rfl rfl ?_
            refine rt_ild rfl l2 ?_
            refine rt_bip rfl k8_29 ?_
            refine biT_le rfl (n_le (by omega) (by omega)) ?_
            refine rt_ald rfl l0 ?_
            refine ow_gf rfl rfl rfl hlen rfl ?_
            refine rt_bip rfl k8_20 ?_
            refine biF_eq rfl (n_ne (by omega) (by omega) (by omega)) ?_
            refine rt_ald rfl l0 ?_
            refine ow_gf rfl rfl rfl hlen rfl ?_
            refine rt_bip rfl k8_8 ?_
            refine biF_ne rfl (n_ne (by omega) (by omega) (by omega)) ?_
            refine rt_ald rfl l0 ?_
            refine RT_step (pc2 := 72) rfl (fun _ _ => rfl) ?_
            refine ow_gf rfl rfl rfl hlen rfl ?_
            refine rt_ico rfl ki_1 ?_
            refine ba_iadd rfl ?_
            rw [n_add]
            refine ow_pf (l2 := ((180, mcl (Int32.ofNat 0) (Int32.ofNat 0) n lim a pl (km kd) nm sg (Int32.ofNat 0) qm wd td (posn vs nn (o + 1) wi tp)) :: (181, mtl ts) :: [(182, ia nw), (187, lng nz), (202, ia nl)])) rfl rfl rfl rfl rfl hlen rfl rfl ?_
            refine rt_ald rfl l0 ?_
            refine RT_step (pc2 := 82) rfl (fun _ _ => rfl) ?_
            refine ow_gf rfl rfl rfl hlen rfl ?_
            refine rt_ico rfl ki_1 ?_
            refine ba_iadd rfl ?_
            rw [n_add]
            refine ow_pf (l2 := ((180, mcl (Int32.ofNat 0) (Int32.ofNat 0) n lim a pl (km kd) nm sg (Int32.ofNat 0) qm wd td (posn vs nn (o + 1) (wi + 1) tp)) :: (181, mtl ts) :: [(182, ia nw), (187, lng nz), (202, ia nl)])) rfl rfl rfl rfl rfl hlen rfl rfl ?_
            refine rt_ald rfl l0 ?_
            refine ow_iv0 (l2 := ((180, mcl (Int32.ofNat 0) (Int32.ofNat 0) n lim a1 pl1 (km kd1) nm1 sg1 (Int32.ofNat 0) qm1 wd1 td (posn vs nn (o + 1) (wi + 1) tp)) :: (181, mtl ts) :: [(182, ia nw), (187, lng nz), (202, ia nl)])) rfl rfl rfl rfl hlen rfl rfl rfl ((m1 _ (ov_hl hlen) (ov_at rfl (ov_lt hlen (by decide))) (ov_at rfl (ov_lt hlen (by decide)))).up (by omega)) rfl ?_
            refine rt_ico rfl ki_1 ?_
            refine rt_ist rfl (by decide +kernel) ?_
            refine rt_ild rfl (gs_o rfl l1 rfl) ?_
            refine bcT_eq rfl rfl ?_
            refine rt_ild rfl (gs_o rfl l2 rfl) ?_
            refine rt_bip rfl k8_19 ?_
            refine biF_ne rfl (n_ne (by omega) (by omega) (by omega)) ?_
            refine rt_ild rfl (gs_o rfl l2 rfl) ?_
            refine rt_bip rfl k8_25 ?_
            refine biF_ge rfl (n_nle (by omega) (by omega)) ?_
            refine rt_ald rfl (gs_o rfl l0 rfl) ?_
            refine rt_ald rfl (gs_o rfl l0 rfl) ?_
            refine rt_bip rfl k8_50 ?_
            refine rt_ild rfl (gs_o rfl l2 rfl) ?_
            refine ba_iadd rfl ?_
            rw [n_add]
            refine rt_ico rfl ki_0 ?_
            refine rt_ico rfl ki_0 ?_
            refine rt_ico rfl ki_0 ?_
            refine ow_iv1 (l2 := ((180, mcl (Int32.ofNat 0) (Int32.ofNat 0) n lim a1 pl1 (km kd1) nm1 sg1 (Int32.ofNat 0) qm1 wd1 td (posn vs (nn + 1) (o + 1) (wi + 1) tp)) :: (181, mtl ts) :: [(182, ia nw), (187, lng nz), (202, ia ((((nl.set (4 * nn) (Int32.ofNat (50 + j))).set (4 * nn + 1) (Int32.ofNat 0)).set (4 * nn + 2) (Int32.ofNat 0)).set (4 * nn + 3) (Int32.ofNat 0)))])) rfl rfl rfl rfl hlen rfl rfl rfl ((m_says (ov_hl hlen) (ov_at rfl (ov_lt hlen (by decide))) (ov_at rfl (ov_lt hlen (by decide))) ln (by omega)).up (by omega)) rfl ?_
            refine ow_pf (l2 := ((180, mcl (Int32.ofNat 0) (Int32.ofNat 0) n lim a1 pl1 (km kd1) nm1 sg1 (Int32.ofNat 0) qm1 wd1 td (posn vs (nn + 1) (o + 1) (wi + 1) nn)) :: (181, mtl ts) :: [(182, ia nw), (187, lng nz), (202, ia ((((nl.set (4 * nn) (Int32.ofNat (50 + j))).set (4 * nn + 1) (Int32.ofNat 0)).set (4 * nn + 2) (Int32.ofNat 0)).set (4 * nn + 3) (Int32.ofNat 0)))])) rfl rfl rfl rfl rfl hlen rfl rfl ?_
            refine RT_step (pc2 := 166) rfl (fun _ _ => rfl) ?_
            refine rt_ald rfl (gs_o rfl l0 rfl) ?_
            refine RT_step (pc2 := 168) rfl (fun _ _ => rfl) ?_
            refine ow_gf rfl rfl rfl hlen rfl ?_
            refine rt_ico rfl ki_1 ?_
            refine ba_isub rfl ?_
            rw [n_sub (by omega), Nat.add_sub_cancel]
            refine ow_pf (l2 := ((180, mcl (Int32.ofNat 0) (Int32.ofNat 0) n lim a1 pl1 (km kd1) nm1 sg1 (Int32.ofNat 0) qm1 wd1 td (posn vs (nn + 1) (o + 1) wi nn)) :: (181, mtl ts) :: [(182, ia nw), (187, lng nz), (202, ia ((((nl.set (4 * nn) (Int32.ofNat (50 + j))).set (4 * nn + 1) (Int32.ofNat 0)).set (4 * nn + 2) (Int32.ofNat 0)).set (4 * nn + 3) (Int32.ofNat 0)))])) rfl rfl rfl rfl rfl hlen rfl rfl ?_
            refine rt_ild rfl gs_n ?_
            exact ow_irt rfl rfl rfl
      · have hk1 := w_k1 t (by omega)
        by_cases cf : o = 20 ∨ wi = 8
        · obtain ⟨T, M, f, hx, hm⟩ := s_ref (bs := bs) (ts := ts) (lim := lim) (po := (posn vs nn o wi tp)) (pl := pl) (tk := tk) (td := td) (fp := fp) (plM := qm) t (kk := 4) (by decide) (by decide) (Or.inl (by omega))
          refine Or.inl ⟨T, M, o, s, nn, tp, ws, sgl, nbl, nl, f, sx, ?_⟩
          by_cases co : o = 20
          · refine ⟨fun H hlen => ?_, fun H hlen => ?_⟩
            · refine FR_st2 (l2 := ((1, T) :: (2, bcl bs) :: [(13, dcl13 P Dn lw cl id gl bo), (14, lng pn), (15, ia ri), (16, ia lf), (17, ia wa), (18, ia fo), (19, lng dn), (20, ia ha), (21, ia pa), (22, ia bl), (115, .inr (7, [.int (Int32.ofNat o), .int (Int32.ofNat s), .ref 116, .ref 117, .ref 118, .ref 119])), (116, wrd ws), (117, ia sgl), (118, ia nbl)])) rfl rfl rfl ?_
              refine RT_step (pc2 := 1) rfl (fun _ _ => rfl) ?_
              refine rt_bip rfl k8_40 ?_
              refine ow_iv1 (l2 := ((1, tcl n lim a kd pl 26 le nu tk (Int32.ofNat 0) fp) :: (2, bcl bs) :: [(13, dcl13 P Dn lw cl id gl bo), (14, lng pn), (15, ia ri), (16, ia lf), (17, ia wa), (18, ia fo), (19, lng dn), (20, ia ha), (21, ia pa), (22, ia bl), (115, .inr (7, [.int (Int32.ofNat o), .int (Int32.ofNat s), .ref 116, .ref 117, .ref 118, .ref 119])), (116, wrd ws), (117, ia sgl), (118, ia nbl)])) rfl rfl rfl rfl hlen rfl rfl rfl ((x_isMarkHere (ov_hl hlen) (ov_at rfl (ov_lt hlen (by decide))) hk5 (c := 40) (s := sv) (by decide) sv1 sv2).up (by omega)) rfl ?_
              rw [g]
              refine RT_step (pc2 := 8) rfl (fun _ _ => rfl) ?_
              refine RT_step (pc2 := 10) rfl (fun _ _ => rfl) ?_
              refine bcT_ne rfl rfl ?_
              refine RT_step (pc2 := 14) rfl (fun _ _ => rfl) ?_
              refine ow_gf rfl rfl rfl hlen rfl ?_
              refine ow_is1 (l2 := ((1, tcl n lim a kd pl 26 le nu tk (Int32.ofNat 0) fp) :: (2, bcl bs) :: [(13, dcl13 P Dn lw cl id gl bo), (14, lng pn), (15, ia ri), (16, ia lf), (17, ia wa), (18, ia fo), (19, lng dn), (20, ia ha), (21, ia pa), (22, ia bl), (115, .inr (7, [.int (Int32.ofNat o), .int (Int32.ofNat s), .ref 116, .ref 117, .ref 118, .ref 119])), (116, wrd ws), (117, ia sgl), (118, ia nbl)])) rfl rfl rfl rfl rfl ((x_beg_t (H := ov H ((1, tcl n lim a kd pl 26 le nu tk (Int32.ofNat 0) fp) :: (2, bcl bs) :: [(13, dcl13 P Dn lw cl id gl bo), (14, lng pn), (15, ia ri), (16, ia lf), (17, ia wa), (18, ia fo), (19, lng dn), (20, ia ha), (21, ia pa), (22, ia bl), (115, .inr (7, [.int (Int32.ofNat o), .int (Int32.ofNat s), .ref 116, .ref 117, .ref 118, .ref 119])), (116, wrd ws), (117, ia sgl), (118, ia nbl)])) (by decide)).up (by omega)) rfl ?_
              refine bcF_ne rfl (by decide) ?_
              refine RT_step (pc2 := 30) rfl (fun _ _ => rfl) ?_
              refine ow_gf rfl rfl rfl hlen rfl ?_
              refine rt_bip rfl k8_20 ?_
              refine biT_ge rfl (n_le (by omega) (by omega)) ?_
              refine RT_step (pc2 := 45) rfl (fun _ _ => rfl) ?_
              refine rt_ico rfl ki_4 ?_
              refine ow_iv1 (l2 := ((1, T) :: (2, bcl bs) :: [(13, dcl13 P Dn lw cl id gl bo), (14, lng pn), (15, ia ri), (16, ia lf), (17, ia wa), (18, ia fo), (19, lng dn), (20, ia ha), (21, ia pa), (22, ia bl), (115, .inr (7, [.int (Int32.ofNat o), .int (Int32.ofNat s), .ref 116, .ref 117, .ref 118, .ref 119])), (116, wrd ws), (117, ia sgl), (118, ia nbl)])) rfl rfl rfl rfl hlen rfl rfl rfl ((hx _ (ov_hl hlen) (ov_at rfl (ov_lt hlen (by decide))) (ov_at rfl (ov_lt hlen (by decide)))).up (by omega)) rfl ?_
              exact ow_irt rfl rfl rfl
            · refine FR_st2 (l2 := ((180, M) :: (181, mtl ts) :: [(182, ia nw), (187, lng nz), (202, ia nl)])) rfl rfl rfl ?_
              refine RT_step (pc2 := 1) rfl (fun _ _ => rfl) ?_
              refine rt_bip rfl k8_40 ?_
              refine ow_iv1 (l2 := ((180, mcl (Int32.ofNat 0) (Int32.ofNat 0) n lim a pl (km kd) nm sg (Int32.ofNat 0) qm wd td (posn vs nn o wi tp)) :: (181, mtl ts) :: [(182, ia nw), (187, lng nz), (202, ia nl)])) rfl rfl rfl rfl hlen rfl rfl rfl ((m_isSign (ov_hl hlen) (ov_at rfl (ov_lt hlen (by decide))) hk (c := 40) (s := sv) (by decide) sv1 sv3).up (by omega)) rfl ?_
              refine RT_step (pc2 := 7) rfl (fun _ _ => rfl) ?_
              rw [bq, g]
              refine rt_bip rfl k8_19 ?_
              refine RT_step (pc2 := 10) rfl (fun _ _ => rfl) ?_
              refine m_wl (z := b01 false) hlen hk 11 19 _ rfl rfl rfl rfl (fun L2 l0 l1 l2 => ?_)
              rw [wj_eq t 11 19 rfl, jw] at l2
              refine rt_ild rfl l1 ?_
              refine bcT_ne rfl rfl ?_
              refine rt_ild rfl l2 ?_
              refine rt_bip rfl k8_29 ?_
              refine biT_le rfl (n_le (by omega) (by omega)) ?_
              refine rt_ald rfl l0 ?_
              refine ow_gf rfl rfl rfl hlen rfl ?_
              refine rt_bip rfl k8_20 ?_
              refine biT_eq rfl (n_eq co) ?_
              refine rt_ald rfl l0 ?_
              refine rt_ico rfl ki_4 ?_
              refine ow_iv1 (l2 := ((180, M) :: (181, mtl ts) :: [(182, ia nw), (187, lng nz), (202, ia nl)])) rfl rfl rfl rfl hlen rfl rfl rfl ((hm _ (ov_hl hlen) (ov_at rfl (ov_lt hlen (by decide))) (ov_at rfl (ov_lt hlen (by decide)))).up (by omega)) rfl ?_
              exact ow_irt rfl rfl rfl
          · refine ⟨fun H hlen => ?_, fun H hlen => ?_⟩
            · refine FR_st2 (l2 := ((1, T) :: (2, bcl bs) :: [(13, dcl13 P Dn lw cl id gl bo), (14, lng pn), (15, ia ri), (16, ia lf), (17, ia wa), (18, ia fo), (19, lng dn), (20, ia ha), (21, ia pa), (22, ia bl), (115, .inr (7, [.int (Int32.ofNat o), .int (Int32.ofNat s), .ref 116, .ref 117, .ref 118, .ref 119])), (116, wrd ws), (117, ia sgl), (118, ia nbl)])) rfl rfl rfl ?_
              refine RT_step (pc2 := 1) rfl (fun _ _ => rfl) ?_
              refine rt_bip rfl k8_40 ?_
              refine ow_iv1 (l2 := ((1, tcl n lim a kd pl 26 le nu tk (Int32.ofNat 0) fp) :: (2, bcl bs) :: [(13, dcl13 P Dn lw cl id gl bo), (14, lng pn), (15, ia ri), (16, ia lf), (17, ia wa), (18, ia fo), (19, lng dn), (20, ia ha), (21, ia pa), (22, ia bl), (115, .inr (7, [.int (Int32.ofNat o), .int (Int32.ofNat s), .ref 116, .ref 117, .ref 118, .ref 119])), (116, wrd ws), (117, ia sgl), (118, ia nbl)])) rfl rfl rfl rfl hlen rfl rfl rfl ((x_isMarkHere (ov_hl hlen) (ov_at rfl (ov_lt hlen (by decide))) hk5 (c := 40) (s := sv) (by decide) sv1 sv2).up (by omega)) rfl ?_
              rw [g]
              refine RT_step (pc2 := 8) rfl (fun _ _ => rfl) ?_
              refine RT_step (pc2 := 10) rfl (fun _ _ => rfl) ?_
              refine bcT_ne rfl rfl ?_
              refine RT_step (pc2 := 14) rfl (fun _ _ => rfl) ?_
              refine ow_gf rfl rfl rfl hlen rfl ?_
              refine ow_is1 (l2 := ((1, tcl n lim a kd pl 26 le nu tk (Int32.ofNat 0) fp) :: (2, bcl bs) :: [(13, dcl13 P Dn lw cl id gl bo), (14, lng pn), (15, ia ri), (16, ia lf), (17, ia wa), (18, ia fo), (19, lng dn), (20, ia ha), (21, ia pa), (22, ia bl), (115, .inr (7, [.int (Int32.ofNat o), .int (Int32.ofNat s), .ref 116, .ref 117, .ref 118, .ref 119])), (116, wrd ws), (117, ia sgl), (118, ia nbl)])) rfl rfl rfl rfl rfl ((x_beg_t (H := ov H ((1, tcl n lim a kd pl 26 le nu tk (Int32.ofNat 0) fp) :: (2, bcl bs) :: [(13, dcl13 P Dn lw cl id gl bo), (14, lng pn), (15, ia ri), (16, ia lf), (17, ia wa), (18, ia fo), (19, lng dn), (20, ia ha), (21, ia pa), (22, ia bl), (115, .inr (7, [.int (Int32.ofNat o), .int (Int32.ofNat s), .ref 116, .ref 117, .ref 118, .ref 119])), (116, wrd ws), (117, ia sgl), (118, ia nbl)])) (by decide)).up (by omega)) rfl ?_
              refine bcF_ne rfl (by decide) ?_
              refine RT_step (pc2 := 30) rfl (fun _ _ => rfl) ?_
              refine ow_gf rfl rfl rfl hlen rfl ?_
              refine rt_bip rfl k8_20 ?_
              refine biF_ge rfl (n_nle (by omega) (by omega)) ?_
              refine RT_step (pc2 := 39) rfl (fun _ _ => rfl) ?_
              refine rt_bip rfl k8_8 ?_
              refine biF_le rfl (n_nle (by omega) (by omega)) ?_
              refine RT_step (pc2 := 45) rfl (fun _ _ => rfl) ?_
              refine rt_ico rfl ki_4 ?_
              refine ow_iv1 (l2 := ((1, T) :: (2, bcl bs) :: [(13, dcl13 P Dn lw cl id gl bo), (14, lng pn), (15, ia ri), (16, ia lf), (17, ia wa), (18, ia fo), (19, lng dn), (20, ia ha), (21, ia pa), (22, ia bl), (115, .inr (7, [.int (Int32.ofNat o), .int (Int32.ofNat s), .ref 116, .ref 117, .ref 118, .ref 119])), (116, wrd ws), (117, ia sgl), (118, ia nbl)])) rfl rfl rfl rfl hlen rfl rfl rfl ((hx _ (ov_hl hlen) (ov_at rfl (ov_lt hlen (by decide))) (ov_at rfl (ov_lt hlen (by decide)))).up (by omega)) rfl ?_
              exact ow_irt rfl rfl rfl
            · refine FR_st2 (l2 := ((180, M) :: (181, mtl ts) :: [(182, ia nw), (187, lng nz), (202, ia nl)])) rfl rfl rfl ?_
              refine RT_step (pc2 := 1) rfl (fun _ _ => rfl) ?_
              refine rt_bip rfl k8_40 ?_
              refine ow_iv1 (l2 := ((180, mcl (Int32.ofNat 0) (Int32.ofNat 0) n lim a pl (km kd) nm sg (Int32.ofNat 0) qm wd td (posn vs nn o wi tp)) :: (181, mtl ts) :: [(182, ia nw), (187, lng nz), (202, ia nl)])) rfl rfl rfl rfl hlen rfl rfl rfl ((m_isSign (ov_hl hlen) (ov_at rfl (ov_lt hlen (by decide))) hk (c := 40) (s := sv) (by decide) sv1 sv3).up (by omega)) rfl ?_
              refine RT_step (pc2 := 7) rfl (fun _ _ => rfl) ?_
              rw [bq, g]
              refine rt_bip rfl k8_19 ?_
              refine RT_step (pc2 := 10) rfl (fun _ _ => rfl) ?_
              refine m_wl (z := b01 false) hlen hk 11 19 _ rfl rfl rfl rfl (fun L2 l0 l1 l2 => ?_)
              rw [wj_eq t 11 19 rfl, jw] at l2
              refine rt_ild rfl l1 ?_
              refine bcT_ne rfl rfl ?_
              refine rt_ild rfl l2 ?_
              refine rt_bip rfl k8_29 ?_
              refine biT_le rfl (n_le (by omega) (by omega)) ?_
              refine rt_ald rfl l0 ?_
              refine ow_gf rfl rfl rfl hlen rfl ?_
              refine rt_bip rfl k8_20 ?_
              refine biF_eq rfl (n_ne co (by omega) (by omega)) ?_
              refine rt_ald rfl l0 ?_
              refine ow_gf rfl rfl rfl hlen rfl ?_
              refine rt_bip rfl k8_8 ?_
              refine biT_ne rfl (n_eq (by omega)) ?_
              refine rt_ald rfl l0 ?_
              refine rt_ico rfl ki_4 ?_
              refine ow_iv1 (l2 := ((180, M) :: (181, mtl ts) :: [(182, ia nw), (187, lng nz), (202, ia nl)])) rfl rfl rfl rfl hlen rfl rfl rfl ((hm _ (ov_hl hlen) (ov_at rfl (ov_lt hlen (by decide))) (ov_at rfl (ov_lt hlen (by decide)))).up (by omega)) rfl ?_
              exact ow_irt rfl rfl rfl
        · obtain ⟨T1, M1, c1, x1, m1⟩ := s_adv hB hM hb hn hl (po := (posn vs nn (o + 1) (wi + 1) tp)) (pl := pl) (tk := tk) (td := td) (fp := fp) (plM := qm) t (by omega) (by omega)
          obtain ⟨a1, kd1, pl1, w1, le1, nu1, fp1, nm1, sg1, qm1, wd1, rfl, rfl, t1⟩ := c1
          obtain ⟨s2, ws2, sl2, nb2, sx2, hadd⟩ := sx_add115 sx (w := 26) (by decide) (Int32.ofNat 0) (Int32.ofNat 0)
          refine Or.inr ⟨(k + 1), tk, td, tcl n lim a1 kd1 pl1 w1 le1 nu1 tk (Int32.ofNat 0) fp1, mcl (Int32.ofNat 0) (Int32.ofNat 0) n lim a1 pl1 (km kd1) nm1 sg1 (Int32.ofNat 0) qm1 wd1 td (posn vs (nn + 1) (o + 1) wi nn), (o + 1), s2, (nn + 1), nn, ws2, sl2, nb2, ((((nl.set (4 * nn) (Int32.ofNat (50 + j))).set (4 * nn + 1) (Int32.ofNat 0)).set (4 * nn + 2) (Int32.ofNat 0)).set (4 * nn + 3) (Int32.ofNat 0)), (tf_td t1), by omega, by omega, by omega, by omega, ?_, ?_, fun H hlen => ?_, fun H hlen => ?_⟩
          · exact sx2
          · simp only [List.length_set]; exact ln
          · refine FR_st2 (l2 := ((1, tcl n lim a1 kd1 pl1 w1 le1 nu1 tk (Int32.ofNat 0) fp1) :: (2, bcl bs) :: [(13, dcl13 P Dn lw cl id gl bo), (14, lng pn), (15, ia ri), (16, ia lf), (17, ia wa), (18, ia fo), (19, lng dn), (20, ia ha), (21, ia pa), (22, ia bl), (115, .inr (7, [.int (Int32.ofNat (o + 1)), .int (Int32.ofNat s2), .ref 116, .ref 117, .ref 118, .ref 119])), (116, wrd ws2), (117, ia sl2), (118, ia nb2)])) rfl rfl rfl ?_
            refine RT_step (pc2 := 1) rfl (fun _ _ => rfl) ?_
            refine rt_bip rfl k8_40 ?_
            refine ow_iv1 (l2 := ((1, tcl n lim a kd pl 26 le nu tk (Int32.ofNat 0) fp) :: (2, bcl bs) :: [(13, dcl13 P Dn lw cl id gl bo), (14, lng pn), (15, ia ri), (16, ia lf), (17, ia wa), (18, ia fo), (19, lng dn), (20, ia ha), (21, ia pa), (22, ia bl), (115, .inr (7, [.int (Int32.ofNat o), .int (Int32.ofNat s), .ref 116, .ref 117, .ref 118, .ref 119])), (116, wrd ws), (117, ia sgl), (118, ia nbl)])) rfl rfl rfl rfl hlen rfl rfl rfl ((x_isMarkHere (ov_hl hlen) (ov_at rfl (ov_lt hlen (by decide))) hk5 (c := 40) (s := sv) (by decide) sv1 sv2).up (by omega)) rfl ?_
            rw [g]
            refine RT_step (pc2 := 8) rfl (fun _ _ => rfl) ?_
            refine RT_step (pc2 := 10) rfl (fun _ _ => rfl) ?_
            refine bcT_ne rfl rfl ?_
            refine RT_step (pc2 := 14) rfl (fun _ _ => rfl) ?_
            refine ow_gf rfl rfl rfl hlen rfl ?_
            refine ow_is1 (l2 := ((1, tcl n lim a kd pl 26 le nu tk (Int32.ofNat 0) fp) :: (2, bcl bs) :: [(13, dcl13 P Dn lw cl id gl bo), (14, lng pn), (15, ia ri), (16, ia lf), (17, ia wa), (18, ia fo), (19, lng dn), (20, ia ha), (21, ia pa), (22, ia bl), (115, .inr (7, [.int (Int32.ofNat o), .int (Int32.ofNat s), .ref 116, .ref 117, .ref 118, .ref 119])), (116, wrd ws), (117, ia sgl), (118, ia nbl)])) rfl rfl rfl rfl rfl ((x_beg_t (H := ov H ((1, tcl n lim a kd pl 26 le nu tk (Int32.ofNat 0) fp) :: (2, bcl bs) :: [(13, dcl13 P Dn lw cl id gl bo), (14, lng pn), (15, ia ri), (16, ia lf), (17, ia wa), (18, ia fo), (19, lng dn), (20, ia ha), (21, ia pa), (22, ia bl), (115, .inr (7, [.int (Int32.ofNat o), .int (Int32.ofNat s), .ref 116, .ref 117, .ref 118, .ref 119])), (116, wrd ws), (117, ia sgl), (118, ia nbl)])) (by decide)).up (by omega)) rfl ?_
            refine bcF_ne rfl (by decide) ?_
            refine RT_step (pc2 := 30) rfl (fun _ _ => rfl) ?_
            refine ow_gf rfl rfl rfl hlen rfl ?_
            refine rt_bip rfl k8_20 ?_
            refine biF_ge rfl (n_nle (by omega) (by omega)) ?_
            refine RT_step (pc2 := 39) rfl (fun _ _ => rfl) ?_
            refine rt_bip rfl k8_8 ?_
            refine biT_le rfl (n_le (by omega) (by omega)) ?_
            refine RT_step (pc2 := 51) rfl (fun _ _ => rfl) ?_
            refine RT_step (pc2 := 52) rfl (fun _ _ => rfl) ?_
            refine ow_gf rfl rfl rfl hlen rfl ?_
            refine rt_ico rfl ki_1 ?_
            refine ba_iadd rfl ?_
            rw [n_add]
            refine ow_pf (l2 := ((1, tcl n lim a kd pl 26 le nu tk (Int32.ofNat 0) fp) :: (2, bcl bs) :: [(13, dcl13 P Dn lw cl id gl bo), (14, lng pn), (15, ia ri), (16, ia lf), (17, ia wa), (18, ia fo), (19, lng dn), (20, ia ha), (21, ia pa), (22, ia bl), (115, .inr (7, [.int (Int32.ofNat (o + 1)), .int (Int32.ofNat s), .ref 116, .ref 117, .ref 118, .ref 119])), (116, wrd ws), (117, ia sgl), (118, ia nbl)])) rfl rfl rfl rfl rfl hlen rfl rfl ?_
            refine RT_step (pc2 := 61) rfl (fun _ _ => rfl) ?_
            refine ow_gf rfl rfl rfl hlen rfl ?_
            refine RT_step (pc2 := 66) rfl (fun _ _ => rfl) ?_
            refine RT_step (pc2 := 67) rfl (fun _ _ => rfl) ?_
            refine ow_iv0 (l2 := ((1, tcl n lim a1 kd1 pl1 w1 le1 nu1 tk (Int32.ofNat 0) fp1) :: (2, bcl bs) :: [(13, dcl13 P Dn lw cl id gl bo), (14, lng pn), (15, ia ri), (16, ia lf), (17, ia wa), (18, ia fo), (19, lng dn), (20, ia ha), (21, ia pa), (22, ia bl), (115, .inr (7, [.int (Int32.ofNat (o + 1)), .int (Int32.ofNat s), .ref 116, .ref 117, .ref 118, .ref 119])), (116, wrd ws), (117, ia sgl), (118, ia nbl)])) rfl rfl rfl rfl hlen rfl rfl rfl ((x1 _ (ov_hl hlen) (ov_at rfl (ov_lt hlen (by decide))) (ov_at rfl (ov_lt hlen (by decide)))).up (by omega)) rfl ?_
            refine RT_step (pc2 := 72) rfl (fun _ _ => rfl) ?_
            refine bcT_eq rfl rfl ?_
            refine RT_step (pc2 := 105) rfl (fun _ _ => rfl) ?_
            refine RT_step (pc2 := 107) rfl (fun _ _ => rfl) ?_
            refine rt_ord rfl (by decide) rfl ?_
            refine rt_isw rfl (v := 26) (by decide +kernel) ?_
            refine rt_tsD (t := 185) rfl (by decide) rfl ?_
            refine RT_step (pc2 := 186) rfl (fun _ _ => rfl) ?_
            refine RT_step (pc2 := 188) rfl (fun _ _ => rfl) ?_
            refine rt_ico rfl ki_0 ?_
            refine rt_ico rfl ki_0 ?_
            refine ow_iv0 (l2 := ((1, tcl n lim a1 kd1 pl1 w1 le1 nu1 tk (Int32.ofNat 0) fp1) :: (2, bcl bs) :: [(13, dcl13 P Dn lw cl id gl bo), (14, lng pn), (15, ia ri), (16, ia lf), (17, ia wa), (18, ia fo), (19, lng dn), (20, ia ha), (21, ia pa), (22, ia bl), (115, .inr (7, [.int (Int32.ofNat (o + 1)), .int (Int32.ofNat s2), .ref 116, .ref 117, .ref 118, .ref 119])), (116, wrd ws2), (117, ia sl2), (118, ia nb2)])) rfl rfl rfl rfl hlen rfl rfl rfl ((hadd _ _ (ov_hl hlen) (ov_at rfl (ov_lt hlen (by decide))) (ov_at rfl (ov_lt hlen (by decide))) (ov_at rfl (ov_lt hlen (by decide))) (ov_at rfl (ov_lt hlen (by decide)))).up (by omega)) rfl ?_
            refine rt_ico rfl ki_1 ?_
            exact ow_irt rfl rfl rfl
          · refine FR_st2 (l2 := ((180, mcl (Int32.ofNat 0) (Int32.ofNat 0) n lim a1 pl1 (km kd1) nm1 sg1 (Int32.ofNat 0) qm1 wd1 td (posn vs (nn + 1) (o + 1) wi nn)) :: (181, mtl ts) :: [(182, ia nw), (187, lng nz), (202, ia ((((nl.set (4 * nn) (Int32.ofNat (50 + j))).set (4 * nn + 1) (Int32.ofNat 0)).set (4 * nn + 2) (Int32.ofNat 0)).set (4 * nn + 3) (Int32.ofNat 0)))])) rfl rfl rfl ?_
            refine RT_step (pc2 := 1) rfl (fun _ _ => rfl) ?_
            refine rt_bip rfl k8_40 ?_
            refine ow_iv1 (l2 := ((180, mcl (Int32.ofNat 0) (Int32.ofNat 0) n lim a pl (km kd) nm sg (Int32.ofNat 0) qm wd td (posn vs nn o wi tp)) :: (181, mtl ts) :: [(182, ia nw), (187, lng nz), (202, ia nl)])) rfl rfl rfl rfl hlen rfl rfl rfl ((m_isSign (ov_hl hlen) (ov_at rfl (ov_lt hlen (by decide))) hk (c := 40) (s := sv) (by decide) sv1 sv3).up (by omega)) rfl ?_
            refine RT_step (pc2 := 7) rfl (fun _ _ => rfl) ?_
            rw [bq, g]
            refine rt_bip rfl k8_19 ?_
            refine RT_step (pc2 := 10) rfl (fun _ _ => rfl) ?_
            refine m_wl (z := b01 false) hlen hk 11 19 _ rfl rfl rfl rfl (fun L2 l0 l1 l2 => ?_)
            rw [wj_eq t 11 19 rfl, jw] at l2
            refine rt_ild rfl l1 ?_
            refine bcT_ne rfl rfl ?_
            refine rt_ild rfl l2 ?_
            refine rt_bip rfl k8_29 ?_
            refine biT_le rfl (n_le (by omega) (by omega)) ?_
            refine rt_ald rfl l0 ?_
            refine ow_gf rfl rfl rfl hlen rfl ?_
            refine rt_bip rfl k8_20 ?_
            refine biF_eq rfl (n_ne (by omega) (by omega) (by omega)) ?_
            refine rt_ald rfl l0 ?_
            refine ow_gf rfl rfl rfl hlen rfl ?_
            refine rt_bip rfl k8_8 ?_
            refine biF_ne rfl (n_ne (by omega) (by omega) (by omega)) ?_
            refine rt_ald rfl l0 ?_
            refine RT_step (pc2 := 72) rfl (fun _ _ => rfl) ?_
            refine ow_gf rfl rfl rfl hlen rfl ?_
            refine rt_ico rfl ki_1 ?_
            refine ba_iadd rfl ?_
            rw [n_add]
            refine ow_pf (l2 := ((180, mcl (Int32.ofNat 0) (Int32.ofNat 0) n lim a pl (km kd) nm sg (Int32.ofNat 0) qm wd td (posn vs nn (o + 1) wi tp)) :: (181, mtl ts) :: [(182, ia nw), (187, lng nz), (202, ia nl)])) rfl rfl rfl rfl rfl hlen rfl rfl ?_
            refine rt_ald rfl l0 ?_
            refine RT_step (pc2 := 82) rfl (fun _ _ => rfl) ?_
            refine ow_gf rfl rfl rfl hlen rfl ?_
            refine rt_ico rfl ki_1 ?_
            refine ba_iadd rfl ?_
            rw [n_add]
            refine ow_pf (l2 := ((180, mcl (Int32.ofNat 0) (Int32.ofNat 0) n lim a pl (km kd) nm sg (Int32.ofNat 0) qm wd td (posn vs nn (o + 1) (wi + 1) tp)) :: (181, mtl ts) :: [(182, ia nw), (187, lng nz), (202, ia nl)])) rfl rfl rfl rfl rfl hlen rfl rfl ?_
            refine rt_ald rfl l0 ?_
            refine ow_iv0 (l2 := ((180, mcl (Int32.ofNat 0) (Int32.ofNat 0) n lim a1 pl1 (km kd1) nm1 sg1 (Int32.ofNat 0) qm1 wd1 td (posn vs nn (o + 1) (wi + 1) tp)) :: (181, mtl ts) :: [(182, ia nw), (187, lng nz), (202, ia nl)])) rfl rfl rfl rfl hlen rfl rfl rfl ((m1 _ (ov_hl hlen) (ov_at rfl (ov_lt hlen (by decide))) (ov_at rfl (ov_lt hlen (by decide)))).up (by omega)) rfl ?_
            refine rt_ico rfl ki_1 ?_
            refine rt_ist rfl (by decide +kernel) ?_
            refine rt_ild rfl (gs_o rfl l1 rfl) ?_
            refine bcT_eq rfl rfl ?_
            refine rt_ild rfl (gs_o rfl l2 rfl) ?_
            refine rt_bip rfl k8_19 ?_
            refine biF_ne rfl (n_ne (by omega) (by omega) (by omega)) ?_
            refine rt_ild rfl (gs_o rfl l2 rfl) ?_
            refine rt_bip rfl k8_25 ?_
            refine biF_ge rfl (n_nle (by omega) (by omega)) ?_
            refine rt_ald rfl (gs_o rfl l0 rfl) ?_
            refine rt_ald rfl (gs_o rfl l0 rfl) ?_
            refine rt_bip rfl k8_50 ?_
            refine rt_ild rfl (gs_o rfl l2 rfl) ?_
            refine ba_iadd rfl ?_
            rw [n_add]
            refine rt_ico rfl ki_0 ?_
            refine rt_ico rfl ki_0 ?_
            refine rt_ico rfl ki_0 ?_
            refine ow_iv1 (l2 := ((180, mcl (Int32.ofNat 0) (Int32.ofNat 0) n lim a1 pl1 (km kd1) nm1 sg1 (Int32.ofNat 0) qm1 wd1 td (posn vs (nn + 1) (o + 1) (wi + 1) tp)) :: (181, mtl ts) :: [(182, ia nw), (187, lng nz), (202, ia ((((nl.set (4 * nn) (Int32.ofNat (50 + j))).set (4 * nn + 1) (Int32.ofNat 0)).set (4 * nn + 2) (Int32.ofNat 0)).set (4 * nn + 3) (Int32.ofNat 0)))])) rfl rfl rfl rfl hlen rfl rfl rfl ((m_says (ov_hl hlen) (ov_at rfl (ov_lt hlen (by decide))) (ov_at rfl (ov_lt hlen (by decide))) ln (by omega)).up (by omega)) rfl ?_
            refine ow_pf (l2 := ((180, mcl (Int32.ofNat 0) (Int32.ofNat 0) n lim a1 pl1 (km kd1) nm1 sg1 (Int32.ofNat 0) qm1 wd1 td (posn vs (nn + 1) (o + 1) (wi + 1) nn)) :: (181, mtl ts) :: [(182, ia nw), (187, lng nz), (202, ia ((((nl.set (4 * nn) (Int32.ofNat (50 + j))).set (4 * nn + 1) (Int32.ofNat 0)).set (4 * nn + 2) (Int32.ofNat 0)).set (4 * nn + 3) (Int32.ofNat 0)))])) rfl rfl rfl rfl rfl hlen rfl rfl ?_
            refine RT_step (pc2 := 166) rfl (fun _ _ => rfl) ?_
            refine rt_ald rfl (gs_o rfl l0 rfl) ?_
            refine RT_step (pc2 := 168) rfl (fun _ _ => rfl) ?_
            refine ow_gf rfl rfl rfl hlen rfl ?_
            refine rt_ico rfl ki_1 ?_
            refine ba_isub rfl ?_
            rw [n_sub (by omega), Nat.add_sub_cancel]
            refine ow_pf (l2 := ((180, mcl (Int32.ofNat 0) (Int32.ofNat 0) n lim a1 pl1 (km kd1) nm1 sg1 (Int32.ofNat 0) qm1 wd1 td (posn vs (nn + 1) (o + 1) wi nn)) :: (181, mtl ts) :: [(182, ia nw), (187, lng nz), (202, ia ((((nl.set (4 * nn) (Int32.ofNat (50 + j))).set (4 * nn + 1) (Int32.ofNat 0)).set (4 * nn + 2) (Int32.ofNat 0)).set (4 * nn + 3) (Int32.ofNat 0)))])) rfl rfl rfl rfl rfl hlen rfl rfl ?_
            refine rt_ild rfl gs_n ?_
            exact ow_irt rfl rfl rfl
