/-! ===== AND, OR: lists of ONES, both at once ===== -/
theorem raL3_110 {B : Nat → Nat} {bs ts : List Int32} {vs : Nat → Value} {n lim : Nat} {P : Nat} {Dn : Nat} {lw : Int32} {cl : Int32} {id : Int32} {gl : Nat} {bo : Nat} {pn : List Int64} {ri : List Int32} {lf : List Int32} {wa : List Int32} {fo : List Int32} {dn : List Int64} {ha : List Int32} {pa : List Int32} {bl : List Int32} {nw : List Int32} {nz : List Int64} (hB : BY bs B) (hM : MY ts B) (hb : ∀ i, B i < 256) (hn : n ≤ 940) (hl : lim ≤ 940) {wi KX KY : Nat} (hS : SO3_110 bs ts vs n lim P Dn lw cl id gl bo pn ri lf wa fo dn ha pa bl nw nz KX 145 [.ref 110, .ref 1, .ref 3, .int (Int32.ofNat (wi + 1))] KY 266 wi) : ∀ (r ii : Nat), ii + r = 20 → ∀ (k a kd pl w : Nat) (le : Int64) (nu tk td fp nm sg qm : Int32) (wd : Int64) (o s nn tp aa : Nat) (ws : List (Option Nat)) (sgl nbl nl : List Int32), TF k n a kd w le nu nm sg wd → ii + 1 ≤ o → o ≤ 20 → nn + 1 ≤ 2 * o → tp < 60 → aa < 60 → SX s ws sgl nbl → nl.length = 240 → (∃ (T M : AE) (o2 s2 nn2 tp2 : Nat) (ws2 : List (Option Nat)) (sl2 nb2 nl2 : List Int32), FC n lim (posn vs nn2 o2 wi tp2) T M ∧ SX s2 ws2 sl2 nb2 ∧ (∀ (H : List AE) (L : List (Nat × Value)), Nat.ble 204 H.length = true → ev_g L 0 = some (.ref 110) → ev_g L 1 = some (.ref 1) → ev_g L 2 = some (.ref 3) → ev_g L 3 = some (.int (Int32.ofNat (wi + 1))) → ev_g L 4 = some (.int (Int32.ofNat 1)) → ev_g L 5 = some (.int (Int32.ofNat ii)) → RT MM (KX + 3) 141 12 L [] (ov H ((1, tcl n lim a kd pl w le nu tk (Int32.ofNat 0) fp) :: (2, bcl bs) :: [(3, dcl3 P Dn lw cl id gl bo), (4, lng pn), (5, ia ri), (6, ia lf), (7, ia wa), (8, ia fo), (9, lng dn), (10, ia ha), (11, ia pa), (12, ia bl), (110, .inr (7, [.int (Int32.ofNat o), .int (Int32.ofNat s), .ref 111, .ref 112, .ref 113, .ref 114])), (111, wrd ws), (112, ia sgl), (113, ia nbl)])) (some (.int (Int32.ofNat 0)), ov H ((1, T) :: (2, bcl bs) :: [(3, dcl3 P Dn lw cl id gl bo), (4, lng pn), (5, ia ri), (6, ia lf), (7, ia wa), (8, ia fo), (9, lng dn), (10, ia ha), (11, ia pa), (12, ia bl), (110, .inr (7, [.int (Int32.ofNat o2), .int (Int32.ofNat s2), .ref 111, .ref 112, .ref 113, .ref 114])), (111, wrd ws2), (112, ia sl2), (113, ia nb2)]))) ∧ (∀ (H : List AE) (L : List (Nat × Value)), Nat.ble 204 H.length = true → ev_g L 0 = some (.ref 180) → ev_g L 1 = some (.int (Int32.ofNat aa)) → RT MM (KY + 3) 245 14 L [] (ov H ((180, mcl (Int32.ofNat 0) (Int32.ofNat 0) n lim a pl (km kd) nm sg (Int32.ofNat 0) qm wd td (posn vs nn o wi tp)) :: (181, mtl ts) :: [(182, ia nw), (187, lng nz), (202, ia nl)])) (some (.int (Int32.ofNat 0)), ov H ((180, M) :: (181, mtl ts) :: [(182, ia nw), (187, lng nz), (202, ia nl2)])))) ∨ (∃ (k2 : Nat) (tk2 td2 : Int32) (T M : AE) (o2 s2 nn2 tp2 : Nat) (ws2 : List (Option Nat)) (sl2 nb2 nl2 : List Int32), TC n lim (posn vs nn2 o2 wi tp2) k2 tk2 td2 T M ∧ o ≤ o2 ∧ o2 ≤ 20 ∧ nn2 + 2 * o ≤ nn + 2 * o2 ∧ tp2 < 60 ∧ SX s2 ws2 sl2 nb2 ∧ nl2.length = 240 ∧ (∀ (H : List AE) (L : List (Nat × Value)), Nat.ble 204 H.length = true → ev_g L 0 = some (.ref 110) → ev_g L 1 = some (.ref 1) → ev_g L 2 = some (.ref 3) → ev_g L 3 = some (.int (Int32.ofNat (wi + 1))) → ev_g L 4 = some (.int (Int32.ofNat 1)) → ev_g L 5 = some (.int (Int32.ofNat ii)) → RT MM (KX + 3) 141 12 L [] (ov H ((1, tcl n lim a kd pl w le nu tk (Int32.ofNat 0) fp) :: (2, bcl bs) :: [(3, dcl3 P Dn lw cl id gl bo), (4, lng pn), (5, ia ri), (6, ia lf), (7, ia wa), (8, ia fo), (9, lng dn), (10, ia ha), (11, ia pa), (12, ia bl), (110, .inr (7, [.int (Int32.ofNat o), .int (Int32.ofNat s), .ref 111, .ref 112, .ref 113, .ref 114])), (111, wrd ws), (112, ia sgl), (113, ia nbl)])) (some (.int (Int32.ofNat 1)), ov H ((1, T) :: (2, bcl bs) :: [(3, dcl3 P Dn lw cl id gl bo), (4, lng pn), (5, ia ri), (6, ia lf), (7, ia wa), (8, ia fo), (9, lng dn), (10, ia ha), (11, ia pa), (12, ia bl), (110, .inr (7, [.int (Int32.ofNat o2), .int (Int32.ofNat s2), .ref 111, .ref 112, .ref 113, .ref 114])), (111, wrd ws2), (112, ia sl2), (113, ia nb2)]))) ∧ (∀ (H : List AE) (L : List (Nat × Value)), Nat.ble 204 H.length = true → ev_g L 0 = some (.ref 180) → ev_g L 1 = some (.int (Int32.ofNat aa)) → RT MM (KY + 3) 245 14 L [] (ov H ((180, mcl (Int32.ofNat 0) (Int32.ofNat 0) n lim a pl (km kd) nm sg (Int32.ofNat 0) qm wd td (posn vs nn o wi tp)) :: (181, mtl ts) :: [(182, ia nw), (187, lng nz), (202, ia nl)])) (some (.int (Int32.ofNat 1)), ov H ((180, M) :: (181, mtl ts) :: [(182, ia nw), (187, lng nz), (202, ia nl2)])))) := by
  intro r
  induction r with
  | zero => intro ii hi k a kd pl w le nu tk td fp nm sg qm wd o s nn tp aa ws sgl nbl nl t h1 h2; omega
  | succ r ih =>
    intro ii hi k a kd pl w le nu tk td fp nm sg qm wd o s nn tp aa ws sgl nbl nl t h1 ho hnn htp haa sx ln
    have hk := (km_is kd t.2.2.2.1).2.2.2.2.2
    have hw := t.2.2.2.2.1
    have iw := w_is t (show 18 < 30 by decide)
    by_cases c : w = 21
    · have iw : isW (km kd) wd 18 = true := by rw [iw]; exact decide_eq_true c
      have hk1 := w_k1 t (by omega)
      obtain ⟨T1, M1, c1, x1, m1⟩ := s_adv hB hM hb hn hl (po := (posn vs nn o wi tp)) (pl := pl) (tk := tk) (td := td) (fp := fp) (plM := qm) t (by omega) (by omega)
      obtain ⟨a1, kd1, pl1, w1, le1, nu1, fp1, nm1, sg1, qm1, wd1, rfl, rfl, t1⟩ := c1
      rcases hS _ a1 kd1 pl1 w1 le1 nu1 tk td fp1 nm1 sg1 qm1 wd1 o s nn tp ws sgl nbl nl t1 ho (by omega) htp sx ln with ⟨T, M, o2, s2, nn2, tp2, ws2, sl2, nb2, nl2, f, sx2, h⟩ | ⟨k2, tk2, td2, T2, M2, o2, s2, nn2, tp2, ws2, sl2, nb2, nl2, c2, o1, o2b, on, tp2b, sx2, ln2, h⟩
      · obtain ⟨s3, ws3, sl3, nb3, sx3, hadd⟩ := sx_add110 sx2 (w := 21) (by decide) (Int32.ofNat 0) (Int32.ofNat 0)
        have f0 := f
        obtain ⟨a9, kd9, pl9, w9, le9, nu9, tk9, kk9, am9, fm9, kM9, nm9, sg9, fa9, qm9, wd9, td9, rfl, rfl, f9⟩ := f
        refine Or.inl ⟨tcl n lim a9 kd9 pl9 w9 le9 nu9 tk9 (Int32.ofNat kk9) (Int32.ofNat pl9), mcl (Int32.ofNat 0) (Int32.ofNat 0) n lim am9 fm9 kM9 nm9 sg9 fa9 qm9 wd9 td9 (posn vs nn2 o2 wi tp2), o2, s3, nn2, tp2, ws3, sl3, nb3, nl2, f0, sx3, fun H L hlen l0 l1 l2 l3 l4 l5 => ?_, fun H L hlen l0 l1 => ?_⟩
        · refine rt_il2 rfl l5 ?_
          refine rt_bip rfl k8_20 ?_
          refine biF_ge rfl (n_nle (by omega) (by decide)) ?_
          refine rt_il2 rfl l4 ?_
          refine bcF_eq rfl (by decide) ?_
          refine rt_ald rfl l1 ?_
          refine ow_gf rfl rfl rfl hlen rfl ?_
          refine RT_step (pc2 := 31) rfl (fun _ _ => rfl) ?_
          refine rt_acN rfl (by omega) (by omega) ?_
          refine RT_if c ?_
          refine rt_ald rfl l1 ?_
          refine ow_iv0 (l2 := ((1, tcl n lim a1 kd1 pl1 w1 le1 nu1 tk (Int32.ofNat 0) fp1) :: (2, bcl bs) :: [(3, dcl3 P Dn lw cl id gl bo), (4, lng pn), (5, ia ri), (6, ia lf), (7, ia wa), (8, ia fo), (9, lng dn), (10, ia ha), (11, ia pa), (12, ia bl), (110, .inr (7, [.int (Int32.ofNat o), .int (Int32.ofNat s), .ref 111, .ref 112, .ref 113, .ref 114])), (111, wrd ws), (112, ia sgl), (113, ia nbl)])) rfl rfl rfl rfl hlen rfl rfl rfl ((x1 _ (ov_hl hlen) (ov_at rfl (ov_lt hlen (by decide))) (ov_at rfl (ov_lt hlen (by decide)))).up (by omega)) rfl ?_
          refine rt_ald rfl l0 ?_
          refine rt_ald rfl l1 ?_
          refine rt_ald rfl l2 ?_
          refine rt_ild rfl l3 ?_
          refine ow_iv1 (l2 := ((1, tcl n lim a9 kd9 pl9 w9 le9 nu9 tk9 (Int32.ofNat kk9) (Int32.ofNat pl9)) :: (2, bcl bs) :: [(3, dcl3 P Dn lw cl id gl bo), (4, lng pn), (5, ia ri), (6, ia lf), (7, ia wa), (8, ia fo), (9, lng dn), (10, ia ha), (11, ia pa), (12, ia bl), (110, .inr (7, [.int (Int32.ofNat o2), .int (Int32.ofNat s2), .ref 111, .ref 112, .ref 113, .ref 114])), (111, wrd ws2), (112, ia sl2), (113, ia nb2)])) rfl rfl rfl rfl hlen rfl rfl rfl ((h.1 H hlen).up (by omega)) rfl ?_
          refine rt_is2 rfl (by decide +kernel) ?_
          refine rt_ald rfl (gs_o rfl l0 rfl) ?_
          refine RT_step (pc2 := 51) rfl (fun _ _ => rfl) ?_
          refine rt_ico rfl ki_0 ?_
          refine rt_ico rfl ki_0 ?_
          refine ow_iv0 (l2 := ((1, tcl n lim a9 kd9 pl9 w9 le9 nu9 tk9 (Int32.ofNat kk9) (Int32.ofNat pl9)) :: (2, bcl bs) :: [(3, dcl3 P Dn lw cl id gl bo), (4, lng pn), (5, ia ri), (6, ia lf), (7, ia wa), (8, ia fo), (9, lng dn), (10, ia ha), (11, ia pa), (12, ia bl), (110, .inr (7, [.int (Int32.ofNat o2), .int (Int32.ofNat s3), .ref 111, .ref 112, .ref 113, .ref 114])), (111, wrd ws3), (112, ia sl3), (113, ia nb3)])) rfl rfl rfl rfl hlen rfl rfl rfl ((hadd _ _ (ov_hl hlen) (ov_at rfl (ov_lt hlen (by decide))) (ov_at rfl (ov_lt hlen (by decide))) (ov_at rfl (ov_lt hlen (by decide))) (ov_at rfl (ov_lt hlen (by decide)))).up (by omega)) rfl ?_
          refine rt_inc rfl (gs_o rfl l5 rfl) (by decide +kernel) ?_
          rw [in_1]
          refine RT_step (pc2 := 12) rfl (fun _ _ => rfl) ?_
          by_cases c9 : ii + 1 < 20
          · refine rt_il2 rfl gs_n ?_
            refine rt_bip rfl k8_20 ?_
            refine biF_ge rfl (n_nle (by omega) (by omega)) ?_
            refine rt_il2 rfl (gs_o rfl gs_n rfl) ?_
            refine bcT_eq rfl rfl ?_
            refine rt_il2 rfl (gs_o rfl gs_n rfl) ?_
            exact ow_irt rfl rfl rfl
          · refine rt_il2 rfl gs_n ?_
            refine rt_bip rfl k8_20 ?_
            refine biT_ge rfl (n_le (by omega) (by omega)) ?_
            refine rt_il2 rfl (gs_o rfl gs_n rfl) ?_
            exact ow_irt rfl rfl rfl
        · refine rt_ald rfl l0 ?_
          refine rt_bip rfl k8_18 ?_
          refine ow_iv1 (l2 := ((180, mcl (Int32.ofNat 0) (Int32.ofNat 0) n lim a pl (km kd) nm sg (Int32.ofNat 0) qm wd td (posn vs nn o wi tp)) :: (181, mtl ts) :: [(182, ia nw), (187, lng nz), (202, ia nl)])) rfl rfl rfl rfl hlen rfl rfl rfl ((m_isWord (k := 18) (ov_hl hlen) (ov_at rfl (ov_lt hlen (by decide))) hk (by decide)).up (by omega)) rfl ?_
          refine bcF_eq rfl (b01_t iw) ?_
          refine rt_ald rfl l0 ?_
          refine ow_iv0 (l2 := ((180, mcl (Int32.ofNat 0) (Int32.ofNat 0) n lim a1 pl1 (km kd1) nm1 sg1 (Int32.ofNat 0) qm1 wd1 td (posn vs nn o wi tp)) :: (181, mtl ts) :: [(182, ia nw), (187, lng nz), (202, ia nl)])) rfl rfl rfl rfl hlen rfl rfl rfl ((m1 _ (ov_hl hlen) (ov_at rfl (ov_lt hlen (by decide))) (ov_at rfl (ov_lt hlen (by decide)))).up (by omega)) rfl ?_
          refine rt_ald rfl l0 ?_
          refine ow_iv1 (l2 := ((180, mcl (Int32.ofNat 0) (Int32.ofNat 0) n lim am9 fm9 kM9 nm9 sg9 fa9 qm9 wd9 td9 (posn vs nn2 o2 wi tp2)) :: (181, mtl ts) :: [(182, ia nw), (187, lng nz), (202, ia nl2)])) rfl rfl rfl rfl hlen rfl rfl rfl ((h.2 H hlen).up (by omega)) rfl ?_
          refine bcT_ne rfl rfl ?_
          refine rt_ico rfl ki_0 ?_
          exact ow_irt rfl rfl rfl
      · obtain ⟨a2, kd2, pl2, w2, le2, nu2, fp2, nm2, sg2, qm2, wd2, rfl, rfl, t2⟩ := c2
        obtain ⟨s3, ws3, sl3, nb3, sx3, hadd⟩ := sx_add110 sx2 (w := 21) (by decide) (Int32.ofNat 0) (Int32.ofNat 0)
        have ln3 : ((((nl2.set (4 * nn2) (Int32.ofNat 2)).set (4 * nn2 + 1) (Int32.ofNat aa)).set (4 * nn2 + 2) (Int32.ofNat tp2)).set (4 * nn2 + 3) (Int32.ofNat 0)).length = 240 := by simp only [List.length_set]; exact ln2
        rcases ih (ii + 1) (by omega) k2 a2 kd2 pl2 w2 le2 nu2 tk2 td2 fp2 nm2 sg2 qm2 wd2 o2 s3 (nn2 + 1) tp2 nn2 ws3 sl3 nb3 ((((nl2.set (4 * nn2) (Int32.ofNat 2)).set (4 * nn2 + 1) (Int32.ofNat aa)).set (4 * nn2 + 2) (Int32.ofNat tp2)).set (4 * nn2 + 3) (Int32.ofNat 0)) t2 (by omega) o2b (by omega) tp2b (by omega) sx3 ln3 with ⟨T, M, o4, s4, nn4, tp4, ws4, sg4, nb4, nl4, f, sx4, g1, g2⟩ | ⟨k4, tk4, td4, T4, M4, o4, s4, nn4, tp4, ws4, sg4, nb4, nl4, c4, q1, q2, q3, q4, sx4, ln4, g1, g2⟩
        · refine Or.inl ⟨T, M, o4, s4, nn4, tp4, ws4, sg4, nb4, nl4, f, sx4, fun H L hlen l0 l1 l2 l3 l4 l5 => ?_, fun H L hlen l0 l1 => ?_⟩
          · refine rt_il2 rfl l5 ?_
            refine rt_bip rfl k8_20 ?_
            refine biF_ge rfl (n_nle (by omega) (by decide)) ?_
            refine rt_il2 rfl l4 ?_
            refine bcF_eq rfl (by decide) ?_
            refine rt_ald rfl l1 ?_
            refine ow_gf rfl rfl rfl hlen rfl ?_
            refine RT_step (pc2 := 31) rfl (fun _ _ => rfl) ?_
            refine rt_acN rfl (by omega) (by omega) ?_
            refine RT_if c ?_
            refine rt_ald rfl l1 ?_
            refine ow_iv0 (l2 := ((1, tcl n lim a1 kd1 pl1 w1 le1 nu1 tk (Int32.ofNat 0) fp1) :: (2, bcl bs) :: [(3, dcl3 P Dn lw cl id gl bo), (4, lng pn), (5, ia ri), (6, ia lf), (7, ia wa), (8, ia fo), (9, lng dn), (10, ia ha), (11, ia pa), (12, ia bl), (110, .inr (7, [.int (Int32.ofNat o), .int (Int32.ofNat s), .ref 111, .ref 112, .ref 113, .ref 114])), (111, wrd ws), (112, ia sgl), (113, ia nbl)])) rfl rfl rfl rfl hlen rfl rfl rfl ((x1 _ (ov_hl hlen) (ov_at rfl (ov_lt hlen (by decide))) (ov_at rfl (ov_lt hlen (by decide)))).up (by omega)) rfl ?_
            refine rt_ald rfl l0 ?_
            refine rt_ald rfl l1 ?_
            refine rt_ald rfl l2 ?_
            refine rt_ild rfl l3 ?_
            refine ow_iv1 (l2 := ((1, tcl n lim a2 kd2 pl2 w2 le2 nu2 tk2 (Int32.ofNat 0) fp2) :: (2, bcl bs) :: [(3, dcl3 P Dn lw cl id gl bo), (4, lng pn), (5, ia ri), (6, ia lf), (7, ia wa), (8, ia fo), (9, lng dn), (10, ia ha), (11, ia pa), (12, ia bl), (110, .inr (7, [.int (Int32.ofNat o2), .int (Int32.ofNat s2), .ref 111, .ref 112, .ref 113, .ref 114])), (111, wrd ws2), (112, ia sl2), (113, ia nb2)])) rfl rfl rfl rfl hlen rfl rfl rfl ((h.1 H hlen).up (by omega)) rfl ?_
            refine rt_is2 rfl (by decide +kernel) ?_
            refine rt_ald rfl (gs_o rfl l0 rfl) ?_
            refine RT_step (pc2 := 51) rfl (fun _ _ => rfl) ?_
            refine rt_ico rfl ki_0 ?_
            refine rt_ico rfl ki_0 ?_
            refine ow_iv0 (l2 := ((1, tcl n lim a2 kd2 pl2 w2 le2 nu2 tk2 (Int32.ofNat 0) fp2) :: (2, bcl bs) :: [(3, dcl3 P Dn lw cl id gl bo), (4, lng pn), (5, ia ri), (6, ia lf), (7, ia wa), (8, ia fo), (9, lng dn), (10, ia ha), (11, ia pa), (12, ia bl), (110, .inr (7, [.int (Int32.ofNat o2), .int (Int32.ofNat s3), .ref 111, .ref 112, .ref 113, .ref 114])), (111, wrd ws3), (112, ia sl3), (113, ia nb3)])) rfl rfl rfl rfl hlen rfl rfl rfl ((hadd _ _ (ov_hl hlen) (ov_at rfl (ov_lt hlen (by decide))) (ov_at rfl (ov_lt hlen (by decide))) (ov_at rfl (ov_lt hlen (by decide))) (ov_at rfl (ov_lt hlen (by decide)))).up (by omega)) rfl ?_
            refine rt_inc rfl (gs_o rfl l5 rfl) (by decide +kernel) ?_
            rw [in_1]
            refine RT_step (pc2 := 12) rfl (fun _ _ => rfl) ?_
            exact g1 H _ hlen (gs_o rfl (gs_o rfl l0 rfl) rfl) (gs_o rfl (gs_o rfl l1 rfl) rfl) (gs_o rfl (gs_o rfl l2 rfl) rfl) (gs_o rfl (gs_o rfl l3 rfl) rfl) (gs_o rfl gs_n rfl) gs_n
          · refine rt_ald rfl l0 ?_
            refine rt_bip rfl k8_18 ?_
            refine ow_iv1 (l2 := ((180, mcl (Int32.ofNat 0) (Int32.ofNat 0) n lim a pl (km kd) nm sg (Int32.ofNat 0) qm wd td (posn vs nn o wi tp)) :: (181, mtl ts) :: [(182, ia nw), (187, lng nz), (202, ia nl)])) rfl rfl rfl rfl hlen rfl rfl rfl ((m_isWord (k := 18) (ov_hl hlen) (ov_at rfl (ov_lt hlen (by decide))) hk (by decide)).up (by omega)) rfl ?_
            refine bcF_eq rfl (b01_t iw) ?_
            refine rt_ald rfl l0 ?_
            refine ow_iv0 (l2 := ((180, mcl (Int32.ofNat 0) (Int32.ofNat 0) n lim a1 pl1 (km kd1) nm1 sg1 (Int32.ofNat 0) qm1 wd1 td (posn vs nn o wi tp)) :: (181, mtl ts) :: [(182, ia nw), (187, lng nz), (202, ia nl)])) rfl rfl rfl rfl hlen rfl rfl rfl ((m1 _ (ov_hl hlen) (ov_at rfl (ov_lt hlen (by decide))) (ov_at rfl (ov_lt hlen (by decide)))).up (by omega)) rfl ?_
            refine rt_ald rfl l0 ?_
            refine ow_iv1 (l2 := ((180, mcl (Int32.ofNat 0) (Int32.ofNat 0) n lim a2 pl2 (km kd2) nm2 sg2 (Int32.ofNat 0) qm2 wd2 td2 (posn vs nn2 o2 wi tp2)) :: (181, mtl ts) :: [(182, ia nw), (187, lng nz), (202, ia nl2)])) rfl rfl rfl rfl hlen rfl rfl rfl ((h.2 H hlen).up (by omega)) rfl ?_
            refine bcF_ne rfl (by decide) ?_
            refine rt_ald rfl l0 ?_
            refine rt_ico rfl ki_2 ?_
            refine rt_ild rfl l1 ?_
            refine rt_ald rfl l0 ?_
            refine ow_gf rfl rfl rfl hlen rfl ?_
            refine rt_ico rfl ki_0 ?_
            refine ow_iv1 (l2 := ((180, mcl (Int32.ofNat 0) (Int32.ofNat 0) n lim a2 pl2 (km kd2) nm2 sg2 (Int32.ofNat 0) qm2 wd2 td2 (posn vs (nn2 + 1) o2 wi tp2)) :: (181, mtl ts) :: [(182, ia nw), (187, lng nz), (202, ia ((((nl2.set (4 * nn2) (Int32.ofNat 2)).set (4 * nn2 + 1) (Int32.ofNat aa)).set (4 * nn2 + 2) (Int32.ofNat tp2)).set (4 * nn2 + 3) (Int32.ofNat 0)))])) rfl rfl rfl rfl hlen rfl rfl rfl ((m_says (ov_hl hlen) (ov_at rfl (ov_lt hlen (by decide))) (ov_at rfl (ov_lt hlen (by decide))) ln2 (by omega)).up (by omega)) rfl ?_
            refine rt_ist rfl (by decide +kernel) ?_
            refine RT_step (pc2 := 14) rfl (fun _ _ => rfl) ?_
            exact g2 H _ hlen (gs_o rfl l0 rfl) gs_n
        · refine Or.inr ⟨k4, tk4, td4, T4, M4, o4, s4, nn4, tp4, ws4, sg4, nb4, nl4, c4, by omega, q2, by omega, q4, sx4, ln4, fun H L hlen l0 l1 l2 l3 l4 l5 => ?_, fun H L hlen l0 l1 => ?_⟩
          · refine rt_il2 rfl l5 ?_
            refine rt_bip rfl k8_20 ?_
            refine biF_ge rfl (n_nle (by omega) (by decide)) ?_
            refine rt_il2 rfl l4 ?_
            refine bcF_eq rfl (by decide) ?_
            refine rt_ald rfl l1 ?_
            refine ow_gf rfl rfl rfl hlen rfl ?_
            refine RT_step (pc2 := 31) rfl (fun _ _ => rfl) ?_
            refine rt_acN rfl (by omega) (by omega) ?_
            refine RT_if c ?_
            refine rt_ald rfl l1 ?_
            refine ow_iv0 (l2 := ((1, tcl n lim a1 kd1 pl1 w1 le1 nu1 tk (Int32.ofNat 0) fp1) :: (2, bcl bs) :: [(3, dcl3 P Dn lw cl id gl bo), (4, lng pn), (5, ia ri), (6, ia lf), (7, ia wa), (8, ia fo), (9, lng dn), (10, ia ha), (11, ia pa), (12, ia bl), (110, .inr (7, [.int (Int32.ofNat o), .int (Int32.ofNat s), .ref 111, .ref 112, .ref 113, .ref 114])), (111, wrd ws), (112, ia sgl), (113, ia nbl)])) rfl rfl rfl rfl hlen rfl rfl rfl ((x1 _ (ov_hl hlen) (ov_at rfl (ov_lt hlen (by decide))) (ov_at rfl (ov_lt hlen (by decide)))).up (by omega)) rfl ?_
            refine rt_ald rfl l0 ?_
            refine rt_ald rfl l1 ?_
            refine rt_ald rfl l2 ?_
            refine rt_ild rfl l3 ?_
            refine ow_iv1 (l2 := ((1, tcl n lim a2 kd2 pl2 w2 le2 nu2 tk2 (Int32.ofNat 0) fp2) :: (2, bcl bs) :: [(3, dcl3 P Dn lw cl id gl bo), (4, lng pn), (5, ia ri), (6, ia lf), (7, ia wa), (8, ia fo), (9, lng dn), (10, ia ha), (11, ia pa), (12, ia bl), (110, .inr (7, [.int (Int32.ofNat o2), .int (Int32.ofNat s2), .ref 111, .ref 112, .ref 113, .ref 114])), (111, wrd ws2), (112, ia sl2), (113, ia nb2)])) rfl rfl rfl rfl hlen rfl rfl rfl ((h.1 H hlen).up (by omega)) rfl ?_
            refine rt_is2 rfl (by decide +kernel) ?_
            refine rt_ald rfl (gs_o rfl l0 rfl) ?_
            refine RT_step (pc2 := 51) rfl (fun _ _ => rfl) ?_
            refine rt_ico rfl ki_0 ?_
            refine rt_ico rfl ki_0 ?_
            refine ow_iv0 (l2 := ((1, tcl n lim a2 kd2 pl2 w2 le2 nu2 tk2 (Int32.ofNat 0) fp2) :: (2, bcl bs) :: [(3, dcl3 P Dn lw cl id gl bo), (4, lng pn), (5, ia ri), (6, ia lf), (7, ia wa), (8, ia fo), (9, lng dn), (10, ia ha), (11, ia pa), (12, ia bl), (110, .inr (7, [.int (Int32.ofNat o2), .int (Int32.ofNat s3), .ref 111, .ref 112, .ref 113, .ref 114])), (111, wrd ws3), (112, ia sl3), (113, ia nb3)])) rfl rfl rfl rfl hlen rfl rfl rfl ((hadd _ _ (ov_hl hlen) (ov_at rfl (ov_lt hlen (by decide))) (ov_at rfl (ov_lt hlen (by decide))) (ov_at rfl (ov_lt hlen (by decide))) (ov_at rfl (ov_lt hlen (by decide)))).up (by omega)) rfl ?_
            refine rt_inc rfl (gs_o rfl l5 rfl) (by decide +kernel) ?_
            rw [in_1]
            refine RT_step (pc2 := 12) rfl (fun _ _ => rfl) ?_
            exact g1 H _ hlen (gs_o rfl (gs_o rfl l0 rfl) rfl) (gs_o rfl (gs_o rfl l1 rfl) rfl) (gs_o rfl (gs_o rfl l2 rfl) rfl) (gs_o rfl (gs_o rfl l3 rfl) rfl) (gs_o rfl gs_n rfl) gs_n
          · refine rt_ald rfl l0 ?_
            refine rt_bip rfl k8_18 ?_
            refine ow_iv1 (l2 := ((180, mcl (Int32.ofNat 0) (Int32.ofNat 0) n lim a pl (km kd) nm sg (Int32.ofNat 0) qm wd td (posn vs nn o wi tp)) :: (181, mtl ts) :: [(182, ia nw), (187, lng nz), (202, ia nl)])) rfl rfl rfl rfl hlen rfl rfl rfl ((m_isWord (k := 18) (ov_hl hlen) (ov_at rfl (ov_lt hlen (by decide))) hk (by decide)).up (by omega)) rfl ?_
            refine bcF_eq rfl (b01_t iw) ?_
            refine rt_ald rfl l0 ?_
            refine ow_iv0 (l2 := ((180, mcl (Int32.ofNat 0) (Int32.ofNat 0) n lim a1 pl1 (km kd1) nm1 sg1 (Int32.ofNat 0) qm1 wd1 td (posn vs nn o wi tp)) :: (181, mtl ts) :: [(182, ia nw), (187, lng nz), (202, ia nl)])) rfl rfl rfl rfl hlen rfl rfl rfl ((m1 _ (ov_hl hlen) (ov_at rfl (ov_lt hlen (by decide))) (ov_at rfl (ov_lt hlen (by decide)))).up (by omega)) rfl ?_
            refine rt_ald rfl l0 ?_
            refine ow_iv1 (l2 := ((180, mcl (Int32.ofNat 0) (Int32.ofNat 0) n lim a2 pl2 (km kd2) nm2 sg2 (Int32.ofNat 0) qm2 wd2 td2 (posn vs nn2 o2 wi tp2)) :: (181, mtl ts) :: [(182, ia nw), (187, lng nz), (202, ia nl2)])) rfl rfl rfl rfl hlen rfl rfl rfl ((h.2 H hlen).up (by omega)) rfl ?_
            refine bcF_ne rfl (by decide) ?_
            refine rt_ald rfl l0 ?_
            refine rt_ico rfl ki_2 ?_
            refine rt_ild rfl l1 ?_
            refine rt_ald rfl l0 ?_
            refine ow_gf rfl rfl rfl hlen rfl ?_
            refine rt_ico rfl ki_0 ?_
            refine ow_iv1 (l2 := ((180, mcl (Int32.ofNat 0) (Int32.ofNat 0) n lim a2 pl2 (km kd2) nm2 sg2 (Int32.ofNat 0) qm2 wd2 td2 (posn vs (nn2 + 1) o2 wi tp2)) :: (181, mtl ts) :: [(182, ia nw), (187, lng nz), (202, ia ((((nl2.set (4 * nn2) (Int32.ofNat 2)).set (4 * nn2 + 1) (Int32.ofNat aa)).set (4 * nn2 + 2) (Int32.ofNat tp2)).set (4 * nn2 + 3) (Int32.ofNat 0)))])) rfl rfl rfl rfl hlen rfl rfl rfl ((m_says (ov_hl hlen) (ov_at rfl (ov_lt hlen (by decide))) (ov_at rfl (ov_lt hlen (by decide))) ln2 (by omega)).up (by omega)) rfl ?_
            refine rt_ist rfl (by decide +kernel) ?_
            refine RT_step (pc2 := 14) rfl (fun _ _ => rfl) ?_
            exact g2 H _ hlen (gs_o rfl l0 rfl) gs_n
    · have iw : isW (km kd) wd 18 = false := by rw [iw]; exact decide_eq_false c
      refine Or.inr ⟨k, tk, td, tcl n lim a kd pl w le nu tk (Int32.ofNat 0) fp, mcl (Int32.ofNat 0) (Int32.ofNat 0) n lim a pl (km kd) nm sg (Int32.ofNat 0) qm wd td (posn vs nn o wi aa), o, s, nn, aa, ws, sgl, nbl, nl, tf_td t, by omega, ho, by omega, haa, sx, ln, fun H L hlen l0 l1 l2 l3 l4 l5 => ?_, fun H L hlen l0 l1 => ?_⟩
      · refine rt_il2 rfl l5 ?_
        refine rt_bip rfl k8_20 ?_
        refine biF_ge rfl (n_nle (by omega) (by decide)) ?_
        refine rt_il2 rfl l4 ?_
        refine bcF_eq rfl (by decide) ?_
        refine rt_ald rfl l1 ?_
        refine ow_gf rfl rfl rfl hlen rfl ?_
        refine RT_step (pc2 := 31) rfl (fun _ _ => rfl) ?_
        refine rt_acN rfl (by omega) (by omega) ?_
        refine RT_el c ?_
        refine rt_il2 rfl l4 ?_
        exact ow_irt rfl rfl rfl
      · refine rt_ald rfl l0 ?_
        refine rt_bip rfl k8_18 ?_
        refine ow_iv1 (l2 := ((180, mcl (Int32.ofNat 0) (Int32.ofNat 0) n lim a pl (km kd) nm sg (Int32.ofNat 0) qm wd td (posn vs nn o wi tp)) :: (181, mtl ts) :: [(182, ia nw), (187, lng nz), (202, ia nl)])) rfl rfl rfl rfl hlen rfl rfl rfl ((m_isWord (k := 18) (ov_hl hlen) (ov_at rfl (ov_lt hlen (by decide))) hk (by decide)).up (by omega)) rfl ?_
        refine bcT_eq rfl (b01_f iw) ?_
        refine rt_ald rfl l0 ?_
        refine rt_ild rfl l1 ?_
        refine ow_pf (l2 := ((180, mcl (Int32.ofNat 0) (Int32.ofNat 0) n lim a pl (km kd) nm sg (Int32.ofNat 0) qm wd td (posn vs nn o wi aa)) :: (181, mtl ts) :: [(182, ia nw), (187, lng nz), (202, ia nl)])) rfl rfl rfl rfl rfl hlen rfl rfl ?_
        refine rt_ico rfl ki_1 ?_
        exact ow_irt rfl rfl rfl
theorem ra3_110 {B : Nat → Nat} {bs ts : List Int32} {vs : Nat → Value} {n lim : Nat} {P : Nat} {Dn : Nat} {lw : Int32} {cl : Int32} {id : Int32} {gl : Nat} {bo : Nat} {pn : List Int64} {ri : List Int32} {lf : List Int32} {wa : List Int32} {fo : List Int32} {dn : List Int64} {ha : List Int32} {pa : List Int32} {bl : List Int32} {nw : List Int32} {nz : List Int64} (hB : BY bs B) (hM : MY ts B) (hb : ∀ i, B i < 256) (hn : n ≤ 940) (hl : lim ≤ 940) {wi KX KY : Nat} (hS : SO3_110 bs ts vs n lim P Dn lw cl id gl bo pn ri lf wa fo dn ha pa bl nw nz KX 145 [.ref 110, .ref 1, .ref 3, .int (Int32.ofNat (wi + 1))] KY 266 wi) : SO3_110 bs ts vs n lim P Dn lw cl id gl bo pn ri lf wa fo dn ha pa bl nw nz (KX + 4) 141 [.ref 110, .ref 1, .ref 3, .int (Int32.ofNat (wi + 1))] (KY + 4) 245 wi := by
  intro k a kd pl w le nu tk td fp nm sg qm wd o s nn tp ws sgl nbl nl t ho hnn htp sx ln
  rcases hS _ a kd pl w le nu tk td fp nm sg qm wd o s nn tp ws sgl nbl nl t ho hnn htp sx ln with ⟨T, M, o2, s2, nn2, tp2, ws2, sl2, nb2, nl2, f, sx2, h⟩ | ⟨k2, tk2, td2, T2, M2, o2, s2, nn2, tp2, ws2, sl2, nb2, nl2, c2, o1, o2b, on, tp2b, sx2, ln2, h⟩
  · refine Or.inl ⟨T, M, o2, s2, nn2, tp2, ws2, sl2, nb2, nl2, f, sx2, fun H hlen => ?_, fun H hlen => ?_⟩
    · refine FR_st2 (l2 := ((1, T) :: (2, bcl bs) :: [(3, dcl3 P Dn lw cl id gl bo), (4, lng pn), (5, ia ri), (6, ia lf), (7, ia wa), (8, ia fo), (9, lng dn), (10, ia ha), (11, ia pa), (12, ia bl), (110, .inr (7, [.int (Int32.ofNat o2), .int (Int32.ofNat s2), .ref 111, .ref 112, .ref 113, .ref 114])), (111, wrd ws2), (112, ia sl2), (113, ia nb2)])) rfl rfl rfl ?_
      refine RT_step (pc2 := 1) rfl (fun _ _ => rfl) ?_
      refine RT_step (pc2 := 2) rfl (fun _ _ => rfl) ?_
      refine RT_step (pc2 := 3) rfl (fun _ _ => rfl) ?_
      refine RT_step (pc2 := 4) rfl (fun _ _ => rfl) ?_
      refine ow_iv1 (l2 := ((1, T) :: (2, bcl bs) :: [(3, dcl3 P Dn lw cl id gl bo), (4, lng pn), (5, ia ri), (6, ia lf), (7, ia wa), (8, ia fo), (9, lng dn), (10, ia ha), (11, ia pa), (12, ia bl), (110, .inr (7, [.int (Int32.ofNat o2), .int (Int32.ofNat s2), .ref 111, .ref 112, .ref 113, .ref 114])), (111, wrd ws2), (112, ia sl2), (113, ia nb2)])) rfl rfl rfl rfl hlen rfl rfl rfl ((h.1 H hlen).up (by omega)) rfl ?_
      refine RT_step (pc2 := 9) rfl (fun _ _ => rfl) ?_
      refine rt_ico rfl ki_0 ?_
      refine RT_step (pc2 := 12) rfl (fun _ _ => rfl) ?_
      refine RT_step (pc2 := 14) rfl (fun _ _ => rfl) ?_
      refine rt_bip rfl k8_20 ?_
      refine biF_ge rfl (n_nle (by decide) (by decide)) ?_
      refine RT_step (pc2 := 21) rfl (fun _ _ => rfl) ?_
      refine bcT_eq rfl rfl ?_
      refine RT_step (pc2 := 64) rfl (fun _ _ => rfl) ?_
      exact ow_irt rfl rfl rfl
    · refine FR_st2 (l2 := ((180, M) :: (181, mtl ts) :: [(182, ia nw), (187, lng nz), (202, ia nl2)])) rfl rfl rfl ?_
      refine RT_step (pc2 := 1) rfl (fun _ _ => rfl) ?_
      refine ow_iv1 (l2 := ((180, M) :: (181, mtl ts) :: [(182, ia nw), (187, lng nz), (202, ia nl2)])) rfl rfl rfl rfl hlen rfl rfl rfl ((h.2 H hlen).up (by omega)) rfl ?_
      refine bcT_ne rfl rfl ?_
      refine rt_ico rfl ki_0 ?_
      exact ow_irt rfl rfl rfl
  · obtain ⟨a2, kd2, pl2, w2, le2, nu2, fp2, nm2, sg2, qm2, wd2, rfl, rfl, t2⟩ := c2
    rcases raL3_110 hB hM hb hn hl hS 20 0 rfl k2 a2 kd2 pl2 w2 le2 nu2 tk2 td2 fp2 nm2 sg2 qm2 wd2 o2 s2 nn2 tp2 tp2 ws2 sl2 nb2 nl2 t2 (by omega) o2b (by omega) tp2b tp2b sx2 ln2 with ⟨T, M, o4, s4, nn4, tp4, ws4, sg4, nb4, nl4, f, sx4, g1, g2⟩ | ⟨k4, tk4, td4, T4, M4, o4, s4, nn4, tp4, ws4, sg4, nb4, nl4, c4, q1, q2, q3, q4, sx4, ln4, g1, g2⟩
    · refine Or.inl ⟨T, M, o4, s4, nn4, tp4, ws4, sg4, nb4, nl4, f, sx4, fun H hlen => ?_, fun H hlen => ?_⟩
      · refine FR_st2 (l2 := ((1, T) :: (2, bcl bs) :: [(3, dcl3 P Dn lw cl id gl bo), (4, lng pn), (5, ia ri), (6, ia lf), (7, ia wa), (8, ia fo), (9, lng dn), (10, ia ha), (11, ia pa), (12, ia bl), (110, .inr (7, [.int (Int32.ofNat o4), .int (Int32.ofNat s4), .ref 111, .ref 112, .ref 113, .ref 114])), (111, wrd ws4), (112, ia sg4), (113, ia nb4)])) rfl rfl rfl ?_
        refine RT_step (pc2 := 1) rfl (fun _ _ => rfl) ?_
        refine RT_step (pc2 := 2) rfl (fun _ _ => rfl) ?_
        refine RT_step (pc2 := 3) rfl (fun _ _ => rfl) ?_
        refine RT_step (pc2 := 4) rfl (fun _ _ => rfl) ?_
        refine ow_iv1 (l2 := ((1, tcl n lim a2 kd2 pl2 w2 le2 nu2 tk2 (Int32.ofNat 0) fp2) :: (2, bcl bs) :: [(3, dcl3 P Dn lw cl id gl bo), (4, lng pn), (5, ia ri), (6, ia lf), (7, ia wa), (8, ia fo), (9, lng dn), (10, ia ha), (11, ia pa), (12, ia bl), (110, .inr (7, [.int (Int32.ofNat o2), .int (Int32.ofNat s2), .ref 111, .ref 112, .ref 113, .ref 114])), (111, wrd ws2), (112, ia sl2), (113, ia nb2)])) rfl rfl rfl rfl hlen rfl rfl rfl ((h.1 H hlen).up (by omega)) rfl ?_
        refine RT_step (pc2 := 9) rfl (fun _ _ => rfl) ?_
        refine rt_ico rfl ki_0 ?_
        refine RT_step (pc2 := 12) rfl (fun _ _ => rfl) ?_
        exact g1 H _ hlen rfl rfl rfl rfl rfl rfl
      · refine FR_st2 (l2 := ((180, M) :: (181, mtl ts) :: [(182, ia nw), (187, lng nz), (202, ia nl4)])) rfl rfl rfl ?_
        refine RT_step (pc2 := 1) rfl (fun _ _ => rfl) ?_
        refine ow_iv1 (l2 := ((180, mcl (Int32.ofNat 0) (Int32.ofNat 0) n lim a2 pl2 (km kd2) nm2 sg2 (Int32.ofNat 0) qm2 wd2 td2 (posn vs nn2 o2 wi tp2)) :: (181, mtl ts) :: [(182, ia nw), (187, lng nz), (202, ia nl2)])) rfl rfl rfl rfl hlen rfl rfl rfl ((h.2 H hlen).up (by omega)) rfl ?_
        refine bcF_ne rfl (by decide) ?_
        refine RT_step (pc2 := 10) rfl (fun _ _ => rfl) ?_
        refine ow_gf rfl rfl rfl hlen rfl ?_
        refine RT_step (pc2 := 14) rfl (fun _ _ => rfl) ?_
        exact g2 H _ hlen rfl rfl
    · refine Or.inr ⟨k4, tk4, td4, T4, M4, o4, s4, nn4, tp4, ws4, sg4, nb4, nl4, c4, by omega, q2, by omega, q4, sx4, ln4, fun H hlen => ?_, fun H hlen => ?_⟩
      · refine FR_st2 (l2 := ((1, T4) :: (2, bcl bs) :: [(3, dcl3 P Dn lw cl id gl bo), (4, lng pn), (5, ia ri), (6, ia lf), (7, ia wa), (8, ia fo), (9, lng dn), (10, ia ha), (11, ia pa), (12, ia bl), (110, .inr (7, [.int (Int32.ofNat o4), .int (Int32.ofNat s4), .ref 111, .ref 112, .ref 113, .ref 114])), (111, wrd ws4), (112, ia sg4), (113, ia nb4)])) rfl rfl rfl ?_
        refine RT_step (pc2 := 1) rfl (fun _ _ => rfl) ?_
        refine RT_step (pc2 := 2) rfl (fun _ _ => rfl) ?_
        refine RT_step (pc2 := 3) rfl (fun _ _ => rfl) ?_
        refine RT_step (pc2 := 4) rfl (fun _ _ => rfl) ?_
        refine ow_iv1 (l2 := ((1, tcl n lim a2 kd2 pl2 w2 le2 nu2 tk2 (Int32.ofNat 0) fp2) :: (2, bcl bs) :: [(3, dcl3 P Dn lw cl id gl bo), (4, lng pn), (5, ia ri), (6, ia lf), (7, ia wa), (8, ia fo), (9, lng dn), (10, ia ha), (11, ia pa), (12, ia bl), (110, .inr (7, [.int (Int32.ofNat o2), .int (Int32.ofNat s2), .ref 111, .ref 112, .ref 113, .ref 114])), (111, wrd ws2), (112, ia sl2), (113, ia nb2)])) rfl rfl rfl rfl hlen rfl rfl rfl ((h.1 H hlen).up (by omega)) rfl ?_
        refine RT_step (pc2 := 9) rfl (fun _ _ => rfl) ?_
        refine rt_ico rfl ki_0 ?_
        refine RT_step (pc2 := 12) rfl (fun _ _ => rfl) ?_
        exact g1 H _ hlen rfl rfl rfl rfl rfl rfl
      · refine FR_st2 (l2 := ((180, M4) :: (181, mtl ts) :: [(182, ia nw), (187, lng nz), (202, ia nl4)])) rfl rfl rfl ?_
        refine RT_step (pc2 := 1) rfl (fun _ _ => rfl) ?_
        refine ow_iv1 (l2 := ((180, mcl (Int32.ofNat 0) (Int32.ofNat 0) n lim a2 pl2 (km kd2) nm2 sg2 (Int32.ofNat 0) qm2 wd2 td2 (posn vs nn2 o2 wi tp2)) :: (181, mtl ts) :: [(182, ia nw), (187, lng nz), (202, ia nl2)])) rfl rfl rfl rfl hlen rfl rfl rfl ((h.2 H hlen).up (by omega)) rfl ?_
        refine bcF_ne rfl (by decide) ?_
        refine RT_step (pc2 := 10) rfl (fun _ _ => rfl) ?_
        refine ow_gf rfl rfl rfl hlen rfl ?_
        refine RT_step (pc2 := 14) rfl (fun _ _ => rfl) ?_
        exact g2 H _ hlen rfl rfl
theorem rcL3_110 {B : Nat → Nat} {bs ts : List Int32} {vs : Nat → Value} {n lim : Nat} {P : Nat} {Dn : Nat} {lw : Int32} {cl : Int32} {id : Int32} {gl : Nat} {bo : Nat} {pn : List Int64} {ri : List Int32} {lf : List Int32} {wa : List Int32} {fo : List Int32} {dn : List Int64} {ha : List Int32} {pa : List Int32} {bl : List Int32} {nw : List Int32} {nz : List Int64} (hB : BY bs B) (hM : MY ts B) (hb : ∀ i, B i < 256) (hn : n ≤ 940) (hl : lim ≤ 940) {wi KX KY : Nat} (hS : SO3_110 bs ts vs n lim P Dn lw cl id gl bo pn ri lf wa fo dn ha pa bl nw nz KX 141 [.ref 110, .ref 1, .ref 3, .int (Int32.ofNat (wi + 1))] KY 245 wi) : ∀ (r ii : Nat), ii + r = 20 → ∀ (k a kd pl w : Nat) (le : Int64) (nu tk td fp nm sg qm : Int32) (wd : Int64) (o s nn tp aa : Nat) (ws : List (Option Nat)) (sgl nbl nl : List Int32), TF k n a kd w le nu nm sg wd → ii + 1 ≤ o → o ≤ 20 → nn + 1 ≤ 2 * o → tp < 60 → aa < 60 → SX s ws sgl nbl → nl.length = 240 → (∃ (T M : AE) (o2 s2 nn2 tp2 : Nat) (ws2 : List (Option Nat)) (sl2 nb2 nl2 : List Int32), FC n lim (posn vs nn2 o2 wi tp2) T M ∧ SX s2 ws2 sl2 nb2 ∧ (∀ (H : List AE) (L : List (Nat × Value)), Nat.ble 204 H.length = true → ev_g L 0 = some (.ref 110) → ev_g L 1 = some (.ref 1) → ev_g L 2 = some (.ref 3) → ev_g L 3 = some (.int (Int32.ofNat (wi + 1))) → ev_g L 4 = some (.int (Int32.ofNat 1)) → ev_g L 5 = some (.int (Int32.ofNat ii)) → RT MM (KX + 3) 142 12 L [] (ov H ((1, tcl n lim a kd pl w le nu tk (Int32.ofNat 0) fp) :: (2, bcl bs) :: [(3, dcl3 P Dn lw cl id gl bo), (4, lng pn), (5, ia ri), (6, ia lf), (7, ia wa), (8, ia fo), (9, lng dn), (10, ia ha), (11, ia pa), (12, ia bl), (110, .inr (7, [.int (Int32.ofNat o), .int (Int32.ofNat s), .ref 111, .ref 112, .ref 113, .ref 114])), (111, wrd ws), (112, ia sgl), (113, ia nbl)])) (some (.int (Int32.ofNat 0)), ov H ((1, T) :: (2, bcl bs) :: [(3, dcl3 P Dn lw cl id gl bo), (4, lng pn), (5, ia ri), (6, ia lf), (7, ia wa), (8, ia fo), (9, lng dn), (10, ia ha), (11, ia pa), (12, ia bl), (110, .inr (7, [.int (Int32.ofNat o2), .int (Int32.ofNat s2), .ref 111, .ref 112, .ref 113, .ref 114])), (111, wrd ws2), (112, ia sl2), (113, ia nb2)]))) ∧ (∀ (H : List AE) (L : List (Nat × Value)), Nat.ble 204 H.length = true → ev_g L 0 = some (.ref 180) → ev_g L 1 = some (.int (Int32.ofNat aa)) → RT MM (KY + 3) 263 14 L [] (ov H ((180, mcl (Int32.ofNat 0) (Int32.ofNat 0) n lim a pl (km kd) nm sg (Int32.ofNat 0) qm wd td (posn vs nn o wi tp)) :: (181, mtl ts) :: [(182, ia nw), (187, lng nz), (202, ia nl)])) (some (.int (Int32.ofNat 0)), ov H ((180, M) :: (181, mtl ts) :: [(182, ia nw), (187, lng nz), (202, ia nl2)])))) ∨ (∃ (k2 : Nat) (tk2 td2 : Int32) (T M : AE) (o2 s2 nn2 tp2 : Nat) (ws2 : List (Option Nat)) (sl2 nb2 nl2 : List Int32), TC n lim (posn vs nn2 o2 wi tp2) k2 tk2 td2 T M ∧ o ≤ o2 ∧ o2 ≤ 20 ∧ nn2 + 2 * o ≤ nn + 2 * o2 ∧ tp2 < 60 ∧ SX s2 ws2 sl2 nb2 ∧ nl2.length = 240 ∧ (∀ (H : List AE) (L : List (Nat × Value)), Nat.ble 204 H.length = true → ev_g L 0 = some (.ref 110) → ev_g L 1 = some (.ref 1) → ev_g L 2 = some (.ref 3) → ev_g L 3 = some (.int (Int32.ofNat (wi + 1))) → ev_g L 4 = some (.int (Int32.ofNat 1)) → ev_g L 5 = some (.int (Int32.ofNat ii)) → RT MM (KX + 3) 142 12 L [] (ov H ((1, tcl n lim a kd pl w le nu tk (Int32.ofNat 0) fp) :: (2, bcl bs) :: [(3, dcl3 P Dn lw cl id gl bo), (4, lng pn), (5, ia ri), (6, ia lf), (7, ia wa), (8, ia fo), (9, lng dn), (10, ia ha), (11, ia pa), (12, ia bl), (110, .inr (7, [.int (Int32.ofNat o), .int (Int32.ofNat s), .ref 111, .ref 112, .ref 113, .ref 114])), (111, wrd ws), (112, ia sgl), (113, ia nbl)])) (some (.int (Int32.ofNat 1)), ov H ((1, T) :: (2, bcl bs) :: [(3, dcl3 P Dn lw cl id gl bo), (4, lng pn), (5, ia ri), (6, ia lf), (7, ia wa), (8, ia fo), (9, lng dn), (10, ia ha), (11, ia pa), (12, ia bl), (110, .inr (7, [.int (Int32.ofNat o2), .int (Int32.ofNat s2), .ref 111, .ref 112, .ref 113, .ref 114])), (111, wrd ws2), (112, ia sl2), (113, ia nb2)]))) ∧ (∀ (H : List AE) (L : List (Nat × Value)), Nat.ble 204 H.length = true → ev_g L 0 = some (.ref 180) → ev_g L 1 = some (.int (Int32.ofNat aa)) → RT MM (KY + 3) 263 14 L [] (ov H ((180, mcl (Int32.ofNat 0) (Int32.ofNat 0) n lim a pl (km kd) nm sg (Int32.ofNat 0) qm wd td (posn vs nn o wi tp)) :: (181, mtl ts) :: [(182, ia nw), (187, lng nz), (202, ia nl)])) (some (.int (Int32.ofNat 1)), ov H ((180, M) :: (181, mtl ts) :: [(182, ia nw), (187, lng nz), (202, ia nl2)])))) := by
  intro r
  induction r with
  | zero => intro ii hi k a kd pl w le nu tk td fp nm sg qm wd o s nn tp aa ws sgl nbl nl t h1 h2; omega
  | succ r ih =>
    intro ii hi k a kd pl w le nu tk td fp nm sg qm wd o s nn tp aa ws sgl nbl nl t h1 ho hnn htp haa sx ln
    have hk := (km_is kd t.2.2.2.1).2.2.2.2.2
    have hw := t.2.2.2.2.1
    have iw := w_is t (show 17 < 30 by decide)
    by_cases c : w = 20
    · have iw : isW (km kd) wd 17 = true := by rw [iw]; exact decide_eq_true c
      have hk1 := w_k1 t (by omega)
      obtain ⟨T1, M1, c1, x1, m1⟩ := s_adv hB hM hb hn hl (po := (posn vs nn o wi tp)) (pl := pl) (tk := tk) (td := td) (fp := fp) (plM := qm) t (by omega) (by omega)
      obtain ⟨a1, kd1, pl1, w1, le1, nu1, fp1, nm1, sg1, qm1, wd1, rfl, rfl, t1⟩ := c1
      rcases hS _ a1 kd1 pl1 w1 le1 nu1 tk td fp1 nm1 sg1 qm1 wd1 o s nn tp ws sgl nbl nl t1 ho (by omega) htp sx ln with ⟨T, M, o2, s2, nn2, tp2, ws2, sl2, nb2, nl2, f, sx2, h⟩ | ⟨k2, tk2, td2, T2, M2, o2, s2, nn2, tp2, ws2, sl2, nb2, nl2, c2, o1, o2b, on, tp2b, sx2, ln2, h⟩
      · obtain ⟨s3, ws3, sl3, nb3, sx3, hadd⟩ := sx_add110 sx2 (w := 20) (by decide) (Int32.ofNat 0) (Int32.ofNat 0)
        have f0 := f
        obtain ⟨a9, kd9, pl9, w9, le9, nu9, tk9, kk9, am9, fm9, kM9, nm9, sg9, fa9, qm9, wd9, td9, rfl, rfl, f9⟩ := f
        refine Or.inl ⟨tcl n lim a9 kd9 pl9 w9 le9 nu9 tk9 (Int32.ofNat kk9) (Int32.ofNat pl9), mcl (Int32.ofNat 0) (Int32.ofNat 0) n lim am9 fm9 kM9 nm9 sg9 fa9 qm9 wd9 td9 (posn vs nn2 o2 wi tp2), o2, s3, nn2, tp2, ws3, sl3, nb3, nl2, f0, sx3, fun H L hlen l0 l1 l2 l3 l4 l5 => ?_, fun H L hlen l0 l1 => ?_⟩
        · refine rt_il2 rfl l5 ?_
          refine rt_bip rfl k8_20 ?_
          refine biF_ge rfl (n_nle (by omega) (by decide)) ?_
          refine rt_il2 rfl l4 ?_
          refine bcF_eq rfl (by decide) ?_
          refine rt_ald rfl l1 ?_
          refine ow_gf rfl rfl rfl hlen rfl ?_
          refine RT_step (pc2 := 31) rfl (fun _ _ => rfl) ?_
          refine rt_acN rfl (by omega) (by omega) ?_
          refine RT_if c ?_
          refine rt_ald rfl l1 ?_
          refine ow_iv0 (l2 := ((1, tcl n lim a1 kd1 pl1 w1 le1 nu1 tk (Int32.ofNat 0) fp1) :: (2, bcl bs) :: [(3, dcl3 P Dn lw cl id gl bo), (4, lng pn), (5, ia ri), (6, ia lf), (7, ia wa), (8, ia fo), (9, lng dn), (10, ia ha), (11, ia pa), (12, ia bl), (110, .inr (7, [.int (Int32.ofNat o), .int (Int32.ofNat s), .ref 111, .ref 112, .ref 113, .ref 114])), (111, wrd ws), (112, ia sgl), (113, ia nbl)])) rfl rfl rfl rfl hlen rfl rfl rfl ((x1 _ (ov_hl hlen) (ov_at rfl (ov_lt hlen (by decide))) (ov_at rfl (ov_lt hlen (by decide)))).up (by omega)) rfl ?_
          refine rt_ald rfl l0 ?_
          refine rt_ald rfl l1 ?_
          refine rt_ald rfl l2 ?_
          refine rt_ild rfl l3 ?_
          refine ow_iv1 (l2 := ((1, tcl n lim a9 kd9 pl9 w9 le9 nu9 tk9 (Int32.ofNat kk9) (Int32.ofNat pl9)) :: (2, bcl bs) :: [(3, dcl3 P Dn lw cl id gl bo), (4, lng pn), (5, ia ri), (6, ia lf), (7, ia wa), (8, ia fo), (9, lng dn), (10, ia ha), (11, ia pa), (12, ia bl), (110, .inr (7, [.int (Int32.ofNat o2), .int (Int32.ofNat s2), .ref 111, .ref 112, .ref 113, .ref 114])), (111, wrd ws2), (112, ia sl2), (113, ia nb2)])) rfl rfl rfl rfl hlen rfl rfl rfl ((h.1 H hlen).up (by omega)) rfl ?_
          refine rt_is2 rfl (by decide +kernel) ?_
          refine rt_ald rfl (gs_o rfl l0 rfl) ?_
          refine RT_step (pc2 := 51) rfl (fun _ _ => rfl) ?_
          refine rt_ico rfl ki_0 ?_
          refine rt_ico rfl ki_0 ?_
          refine ow_iv0 (l2 := ((1, tcl n lim a9 kd9 pl9 w9 le9 nu9 tk9 (Int32.ofNat kk9) (Int32.ofNat pl9)) :: (2, bcl bs) :: [(3, dcl3 P Dn lw cl id gl bo), (4, lng pn), (5, ia ri), (6, ia lf), (7, ia wa), (8, ia fo), (9, lng dn), (10, ia ha), (11, ia pa), (12, ia bl), (110, .inr (7, [.int (Int32.ofNat o2), .int (Int32.ofNat s3), .ref 111, .ref 112, .ref 113, .ref 114])), (111, wrd ws3), (112, ia sl3), (113, ia nb3)])) rfl rfl rfl rfl hlen rfl rfl rfl ((hadd _ _ (ov_hl hlen) (ov_at rfl (ov_lt hlen (by decide))) (ov_at rfl (ov_lt hlen (by decide))) (ov_at rfl (ov_lt hlen (by decide))) (ov_at rfl (ov_lt hlen (by decide)))).up (by omega)) rfl ?_
          refine rt_inc rfl (gs_o rfl l5 rfl) (by decide +kernel) ?_
          rw [in_1]
          refine RT_step (pc2 := 12) rfl (fun _ _ => rfl) ?_
          by_cases c9 : ii + 1 < 20
          · refine rt_il2 rfl gs_n ?_
            refine rt_bip rfl k8_20 ?_
            refine biF_ge rfl (n_nle (by omega) (by omega)) ?_
            refine rt_il2 rfl (gs_o rfl gs_n rfl) ?_
            refine bcT_eq rfl rfl ?_
            refine rt_il2 rfl (gs_o rfl gs_n rfl) ?_
            exact ow_irt rfl rfl rfl
          · refine rt_il2 rfl gs_n ?_
            refine rt_bip rfl k8_20 ?_
            refine biT_ge rfl (n_le (by omega) (by omega)) ?_
            refine rt_il2 rfl (gs_o rfl gs_n rfl) ?_
            exact ow_irt rfl rfl rfl
        · refine rt_ald rfl l0 ?_
          refine rt_bip rfl k8_17 ?_
          refine ow_iv1 (l2 := ((180, mcl (Int32.ofNat 0) (Int32.ofNat 0) n lim a pl (km kd) nm sg (Int32.ofNat 0) qm wd td (posn vs nn o wi tp)) :: (181, mtl ts) :: [(182, ia nw), (187, lng nz), (202, ia nl)])) rfl rfl rfl rfl hlen rfl rfl rfl ((m_isWord (k := 17) (ov_hl hlen) (ov_at rfl (ov_lt hlen (by decide))) hk (by decide)).up (by omega)) rfl ?_
          refine bcF_eq rfl (b01_t iw) ?_
          refine rt_ald rfl l0 ?_
          refine ow_iv0 (l2 := ((180, mcl (Int32.ofNat 0) (Int32.ofNat 0) n lim a1 pl1 (km kd1) nm1 sg1 (Int32.ofNat 0) qm1 wd1 td (posn vs nn o wi tp)) :: (181, mtl ts) :: [(182, ia nw), (187, lng nz), (202, ia nl)])) rfl rfl rfl rfl hlen rfl rfl rfl ((m1 _ (ov_hl hlen) (ov_at rfl (ov_lt hlen (by decide))) (ov_at rfl (ov_lt hlen (by decide)))).up (by omega)) rfl ?_
          refine rt_ald rfl l0 ?_
          refine ow_iv1 (l2 := ((180, mcl (Int32.ofNat 0) (Int32.ofNat 0) n lim am9 fm9 kM9 nm9 sg9 fa9 qm9 wd9 td9 (posn vs nn2 o2 wi tp2)) :: (181, mtl ts) :: [(182, ia nw), (187, lng nz), (202, ia nl2)])) rfl rfl rfl rfl hlen rfl rfl rfl ((h.2 H hlen).up (by omega)) rfl ?_
          refine bcT_ne rfl rfl ?_
          refine rt_ico rfl ki_0 ?_
          exact ow_irt rfl rfl rfl
      · obtain ⟨a2, kd2, pl2, w2, le2, nu2, fp2, nm2, sg2, qm2, wd2, rfl, rfl, t2⟩ := c2
        obtain ⟨s3, ws3, sl3, nb3, sx3, hadd⟩ := sx_add110 sx2 (w := 20) (by decide) (Int32.ofNat 0) (Int32.ofNat 0)
        have ln3 : ((((nl2.set (4 * nn2) (Int32.ofNat 3)).set (4 * nn2 + 1) (Int32.ofNat aa)).set (4 * nn2 + 2) (Int32.ofNat tp2)).set (4 * nn2 + 3) (Int32.ofNat 0)).length = 240 := by simp only [List.length_set]; exact ln2
        rcases ih (ii + 1) (by omega) k2 a2 kd2 pl2 w2 le2 nu2 tk2 td2 fp2 nm2 sg2 qm2 wd2 o2 s3 (nn2 + 1) tp2 nn2 ws3 sl3 nb3 ((((nl2.set (4 * nn2) (Int32.ofNat 3)).set (4 * nn2 + 1) (Int32.ofNat aa)).set (4 * nn2 + 2) (Int32.ofNat tp2)).set (4 * nn2 + 3) (Int32.ofNat 0)) t2 (by omega) o2b (by omega) tp2b (by omega) sx3 ln3 with ⟨T, M, o4, s4, nn4, tp4, ws4, sg4, nb4, nl4, f, sx4, g1, g2⟩ | ⟨k4, tk4, td4, T4, M4, o4, s4, nn4, tp4, ws4, sg4, nb4, nl4, c4, q1, q2, q3, q4, sx4, ln4, g1, g2⟩
        · refine Or.inl ⟨T, M, o4, s4, nn4, tp4, ws4, sg4, nb4, nl4, f, sx4, fun H L hlen l0 l1 l2 l3 l4 l5 => ?_, fun H L hlen l0 l1 => ?_⟩
          · refine rt_il2 rfl l5 ?_
            refine rt_bip rfl k8_20 ?_
            refine biF_ge rfl (n_nle (by omega) (by decide)) ?_
            refine rt_il2 rfl l4 ?_
            refine bcF_eq rfl (by decide) ?_
            refine rt_ald rfl l1 ?_
            refine ow_gf rfl rfl rfl hlen rfl ?_
            refine RT_step (pc2 := 31) rfl (fun _ _ => rfl) ?_
            refine rt_acN rfl (by omega) (by omega) ?_
            refine RT_if c ?_
            refine rt_ald rfl l1 ?_
            refine ow_iv0 (l2 := ((1, tcl n lim a1 kd1 pl1 w1 le1 nu1 tk (Int32.ofNat 0) fp1) :: (2, bcl bs) :: [(3, dcl3 P Dn lw cl id gl bo), (4, lng pn), (5, ia ri), (6, ia lf), (7, ia wa), (8, ia fo), (9, lng dn), (10, ia ha), (11, ia pa), (12, ia bl), (110, .inr (7, [.int (Int32.ofNat o), .int (Int32.ofNat s), .ref 111, .ref 112, .ref 113, .ref 114])), (111, wrd ws), (112, ia sgl), (113, ia nbl)])) rfl rfl rfl rfl hlen rfl rfl rfl ((x1 _ (ov_hl hlen) (ov_at rfl (ov_lt hlen (by decide))) (ov_at rfl (ov_lt hlen (by decide)))).up (by omega)) rfl ?_
            refine rt_ald rfl l0 ?_
            refine rt_ald rfl l1 ?_
            refine rt_ald rfl l2 ?_
            refine rt_ild rfl l3 ?_
            refine ow_iv1 (l2 := ((1, tcl n lim a2 kd2 pl2 w2 le2 nu2 tk2 (Int32.ofNat 0) fp2) :: (2, bcl bs) :: [(3, dcl3 P Dn lw cl id gl bo), (4, lng pn), (5, ia ri), (6, ia lf), (7, ia wa), (8, ia fo), (9, lng dn), (10, ia ha), (11, ia pa), (12, ia bl), (110, .inr (7, [.int (Int32.ofNat o2), .int (Int32.ofNat s2), .ref 111, .ref 112, .ref 113, .ref 114])), (111, wrd ws2), (112, ia sl2), (113, ia nb2)])) rfl rfl rfl rfl hlen rfl rfl rfl ((h.1 H hlen).up (by omega)) rfl ?_
            refine rt_is2 rfl (by decide +kernel) ?_
            refine rt_ald rfl (gs_o rfl l0 rfl) ?_
            refine RT_step (pc2 := 51) rfl (fun _ _ => rfl) ?_
            refine rt_ico rfl ki_0 ?_
            refine rt_ico rfl ki_0 ?_
            refine ow_iv0 (l2 := ((1, tcl n lim a2 kd2 pl2 w2 le2 nu2 tk2 (Int32.ofNat 0) fp2) :: (2, bcl bs) :: [(3, dcl3 P Dn lw cl id gl bo), (4, lng pn), (5, ia ri), (6, ia lf), (7, ia wa), (8, ia fo), (9, lng dn), (10, ia ha), (11, ia pa), (12, ia bl), (110, .inr (7, [.int (Int32.ofNat o2), .int (Int32.ofNat s3), .ref 111, .ref 112, .ref 113, .ref 114])), (111, wrd ws3), (112, ia sl3), (113, ia nb3)])) rfl rfl rfl rfl hlen rfl rfl rfl ((hadd _ _ (ov_hl hlen) (ov_at rfl (ov_lt hlen (by decide))) (ov_at rfl (ov_lt hlen (by decide))) (ov_at rfl (ov_lt hlen (by decide))) (ov_at rfl (ov_lt hlen (by decide)))).up (by omega)) rfl ?_
            refine rt_inc rfl (gs_o rfl l5 rfl) (by decide +kernel) ?_
            rw [in_1]
            refine RT_step (pc2 := 12) rfl (fun _ _ => rfl) ?_
            exact g1 H _ hlen (gs_o rfl (gs_o rfl l0 rfl) rfl) (gs_o rfl (gs_o rfl l1 rfl) rfl) (gs_o rfl (gs_o rfl l2 rfl) rfl) (gs_o rfl (gs_o rfl l3 rfl) rfl) (gs_o rfl gs_n rfl) gs_n
          · refine rt_ald rfl l0 ?_
            refine rt_bip rfl k8_17 ?_
            refine ow_iv1 (l2 := ((180, mcl (Int32.ofNat 0) (Int32.ofNat 0) n lim a pl (km kd) nm sg (Int32.ofNat 0) qm wd td (posn vs nn o wi tp)) :: (181, mtl ts) :: [(182, ia nw), (187, lng nz), (202, ia nl)])) rfl rfl rfl rfl hlen rfl rfl rfl ((m_isWord (k := 17) (ov_hl hlen) (ov_at rfl (ov_lt hlen (by decide))) hk (by decide)).up (by omega)) rfl ?_
            refine bcF_eq rfl (b01_t iw) ?_
            refine rt_ald rfl l0 ?_
            refine ow_iv0 (l2 := ((180, mcl (Int32.ofNat 0) (Int32.ofNat 0) n lim a1 pl1 (km kd1) nm1 sg1 (Int32.ofNat 0) qm1 wd1 td (posn vs nn o wi tp)) :: (181, mtl ts) :: [(182, ia nw), (187, lng nz), (202, ia nl)])) rfl rfl rfl rfl hlen rfl rfl rfl ((m1 _ (ov_hl hlen) (ov_at rfl (ov_lt hlen (by decide))) (ov_at rfl (ov_lt hlen (by decide)))).up (by omega)) rfl ?_
            refine rt_ald rfl l0 ?_
            refine ow_iv1 (l2 := ((180, mcl (Int32.ofNat 0) (Int32.ofNat 0) n lim a2 pl2 (km kd2) nm2 sg2 (Int32.ofNat 0) qm2 wd2 td2 (posn vs nn2 o2 wi tp2)) :: (181, mtl ts) :: [(182, ia nw), (187, lng nz), (202, ia nl2)])) rfl rfl rfl rfl hlen rfl rfl rfl ((h.2 H hlen).up (by omega)) rfl ?_
            refine bcF_ne rfl (by decide) ?_
            refine rt_ald rfl l0 ?_
            refine rt_ico rfl ki_3 ?_
            refine rt_ild rfl l1 ?_
            refine rt_ald rfl l0 ?_
            refine ow_gf rfl rfl rfl hlen rfl ?_
            refine rt_ico rfl ki_0 ?_
            refine ow_iv1 (l2 := ((180, mcl (Int32.ofNat 0) (Int32.ofNat 0) n lim a2 pl2 (km kd2) nm2 sg2 (Int32.ofNat 0) qm2 wd2 td2 (posn vs (nn2 + 1) o2 wi tp2)) :: (181, mtl ts) :: [(182, ia nw), (187, lng nz), (202, ia ((((nl2.set (4 * nn2) (Int32.ofNat 3)).set (4 * nn2 + 1) (Int32.ofNat aa)).set (4 * nn2 + 2) (Int32.ofNat tp2)).set (4 * nn2 + 3) (Int32.ofNat 0)))])) rfl rfl rfl rfl hlen rfl rfl rfl ((m_says (ov_hl hlen) (ov_at rfl (ov_lt hlen (by decide))) (ov_at rfl (ov_lt hlen (by decide))) ln2 (by omega)).up (by omega)) rfl ?_
            refine rt_ist rfl (by decide +kernel) ?_
            refine RT_step (pc2 := 14) rfl (fun _ _ => rfl) ?_
            exact g2 H _ hlen (gs_o rfl l0 rfl) gs_n
        · refine Or.inr ⟨k4, tk4, td4, T4, M4, o4, s4, nn4, tp4, ws4, sg4, nb4, nl4, c4, by omega, q2, by omega, q4, sx4, ln4, fun H L hlen l0 l1 l2 l3 l4 l5 => ?_, fun H L hlen l0 l1 => ?_⟩
          · refine rt_il2 rfl l5 ?_
            refine rt_bip rfl k8_20 ?_
            refine biF_ge rfl (n_nle (by omega) (by decide)) ?_
            refine rt_il2 rfl l4 ?_
            refine bcF_eq rfl (by decide) ?_
            refine rt_ald rfl l1 ?_
            refine ow_gf rfl rfl rfl hlen rfl ?_
            refine RT_step (pc2 := 31) rfl (fun _ _ => rfl) ?_
            refine rt_acN rfl (by omega) (by omega) ?_
            refine RT_if c ?_
            refine rt_ald rfl l1 ?_
            refine ow_iv0 (l2 := ((1, tcl n lim a1 kd1 pl1 w1 le1 nu1 tk (Int32.ofNat 0) fp1) :: (2, bcl bs) :: [(3, dcl3 P Dn lw cl id gl bo), (4, lng pn), (5, ia ri), (6, ia lf), (7, ia wa), (8, ia fo), (9, lng dn), (10, ia ha), (11, ia pa), (12, ia bl), (110, .inr (7, [.int (Int32.ofNat o), .int (Int32.ofNat s), .ref 111, .ref 112, .ref 113, .ref 114])), (111, wrd ws), (112, ia sgl), (113, ia nbl)])) rfl rfl rfl rfl hlen rfl rfl rfl ((x1 _ (ov_hl hlen) (ov_at rfl (ov_lt hlen (by decide))) (ov_at rfl (ov_lt hlen (by decide)))).up (by omega)) rfl ?_
            refine rt_ald rfl l0 ?_
            refine rt_ald rfl l1 ?_
            refine rt_ald rfl l2 ?_
            refine rt_ild rfl l3 ?_
            refine ow_iv1 (l2 := ((1, tcl n lim a2 kd2 pl2 w2 le2 nu2 tk2 (Int32.ofNat 0) fp2) :: (2, bcl bs) :: [(3, dcl3 P Dn lw cl id gl bo), (4, lng pn), (5, ia ri), (6, ia lf), (7, ia wa), (8, ia fo), (9, lng dn), (10, ia ha), (11, ia pa), (12, ia bl), (110, .inr (7, [.int (Int32.ofNat o2), .int (Int32.ofNat s2), .ref 111, .ref 112, .ref 113, .ref 114])), (111, wrd ws2), (112, ia sl2), (113, ia nb2)])) rfl rfl rfl rfl hlen rfl rfl rfl ((h.1 H hlen).up (by omega)) rfl ?_
            refine rt_is2 rfl (by decide +kernel) ?_
            refine rt_ald rfl (gs_o rfl l0 rfl) ?_
            refine RT_step (pc2 := 51) rfl (fun _ _ => rfl) ?_
            refine rt_ico rfl ki_0 ?_
            refine rt_ico rfl ki_0 ?_
            refine ow_iv0 (l2 := ((1, tcl n lim a2 kd2 pl2 w2 le2 nu2 tk2 (Int32.ofNat 0) fp2) :: (2, bcl bs) :: [(3, dcl3 P Dn lw cl id gl bo), (4, lng pn), (5, ia ri), (6, ia lf), (7, ia wa), (8, ia fo), (9, lng dn), (10, ia ha), (11, ia pa), (12, ia bl), (110, .inr (7, [.int (Int32.ofNat o2), .int (Int32.ofNat s3), .ref 111, .ref 112, .ref 113, .ref 114])), (111, wrd ws3), (112, ia sl3), (113, ia nb3)])) rfl rfl rfl rfl hlen rfl rfl rfl ((hadd _ _ (ov_hl hlen) (ov_at rfl (ov_lt hlen (by decide))) (ov_at rfl (ov_lt hlen (by decide))) (ov_at rfl (ov_lt hlen (by decide))) (ov_at rfl (ov_lt hlen (by decide)))).up (by omega)) rfl ?_
            refine rt_inc rfl (gs_o rfl l5 rfl) (by decide +kernel) ?_
            rw [in_1]
            refine RT_step (pc2 := 12) rfl (fun _ _ => rfl) ?_
            exact g1 H _ hlen (gs_o rfl (gs_o rfl l0 rfl) rfl) (gs_o rfl (gs_o rfl l1 rfl) rfl) (gs_o rfl (gs_o rfl l2 rfl) rfl) (gs_o rfl (gs_o rfl l3 rfl) rfl) (gs_o rfl gs_n rfl) gs_n
          · refine rt_ald rfl l0 ?_
            refine rt_bip rfl k8_17 ?_
            refine ow_iv1 (l2 := ((180, mcl (Int32.ofNat 0) (Int32.ofNat 0) n lim a pl (km kd) nm sg (Int32.ofNat 0) qm wd td (posn vs nn o wi tp)) :: (181, mtl ts) :: [(182, ia nw), (187, lng nz), (202, ia nl)])) rfl rfl rfl rfl hlen rfl rfl rfl ((m_isWord (k := 17) (ov_hl hlen) (ov_at rfl (ov_lt hlen (by decide))) hk (by decide)).up (by omega)) rfl ?_
            refine bcF_eq rfl (b01_t iw) ?_
            refine rt_ald rfl l0 ?_
            refine ow_iv0 (l2 := ((180, mcl (Int32.ofNat 0) (Int32.ofNat 0) n lim a1 pl1 (km kd1) nm1 sg1 (Int32.ofNat 0) qm1 wd1 td (posn vs nn o wi tp)) :: (181, mtl ts) :: [(182, ia nw), (187, lng nz), (202, ia nl)])) rfl rfl rfl rfl hlen rfl rfl rfl ((m1 _ (ov_hl hlen) (ov_at rfl (ov_lt hlen (by decide))) (ov_at rfl (ov_lt hlen (by decide)))).up (by omega)) rfl ?_
            refine rt_ald rfl l0 ?_
            refine ow_iv1 (l2 := ((180, mcl (Int32.ofNat 0) (Int32.ofNat 0) n lim a2 pl2 (km kd2) nm2 sg2 (Int32.ofNat 0) qm2 wd2 td2 (posn vs nn2 o2 wi tp2)) :: (181, mtl ts) :: [(182, ia nw), (187, lng nz), (202, ia nl2)])) rfl rfl rfl rfl hlen rfl rfl rfl ((h.2 H hlen).up (by omega)) rfl ?_
            refine bcF_ne rfl (by decide) ?_
            refine rt_ald rfl l0 ?_
            refine rt_ico rfl ki_3 ?_
            refine rt_ild rfl l1 ?_
            refine rt_ald rfl l0 ?_
            refine ow_gf rfl rfl rfl hlen rfl ?_
            refine rt_ico rfl ki_0 ?_
            refine ow_iv1 (l2 := ((180, mcl (Int32.ofNat 0) (Int32.ofNat 0) n lim a2 pl2 (km kd2) nm2 sg2 (Int32.ofNat 0) qm2 wd2 td2 (posn vs (nn2 + 1) o2 wi tp2)) :: (181, mtl ts) :: [(182, ia nw), (187, lng nz), (202, ia ((((nl2.set (4 * nn2) (Int32.ofNat 3)).set (4 * nn2 + 1) (Int32.ofNat aa)).set (4 * nn2 + 2) (Int32.ofNat tp2)).set (4 * nn2 + 3) (Int32.ofNat 0)))])) rfl rfl rfl rfl hlen rfl rfl rfl ((m_says (ov_hl hlen) (ov_at rfl (ov_lt hlen (by decide))) (ov_at rfl (ov_lt hlen (by decide))) ln2 (by omega)).up (by omega)) rfl ?_
            refine rt_ist rfl (by decide +kernel) ?_
            refine RT_step (pc2 := 14) rfl (fun _ _ => rfl) ?_
            exact g2 H _ hlen (gs_o rfl l0 rfl) gs_n
    · have iw : isW (km kd) wd 17 = false := by rw [iw]; exact decide_eq_false c
      refine Or.inr ⟨k, tk, td, tcl n lim a kd pl w le nu tk (Int32.ofNat 0) fp, mcl (Int32.ofNat 0) (Int32.ofNat 0) n lim a pl (km kd) nm sg (Int32.ofNat 0) qm wd td (posn vs nn o wi aa), o, s, nn, aa, ws, sgl, nbl, nl, tf_td t, by omega, ho, by omega, haa, sx, ln, fun H L hlen l0 l1 l2 l3 l4 l5 => ?_, fun H L hlen l0 l1 => ?_⟩
      · refine rt_il2 rfl l5 ?_
        refine rt_bip rfl k8_20 ?_
        refine biF_ge rfl (n_nle (by omega) (by decide)) ?_
        refine rt_il2 rfl l4 ?_
        refine bcF_eq rfl (by decide) ?_
        refine rt_ald rfl l1 ?_
        refine ow_gf rfl rfl rfl hlen rfl ?_
        refine RT_step (pc2 := 31) rfl (fun _ _ => rfl) ?_
        refine rt_acN rfl (by omega) (by omega) ?_
        refine RT_el c ?_
        refine rt_il2 rfl l4 ?_
        exact ow_irt rfl rfl rfl
      · refine rt_ald rfl l0 ?_
        refine rt_bip rfl k8_17 ?_
        refine ow_iv1 (l2 := ((180, mcl (Int32.ofNat 0) (Int32.ofNat 0) n lim a pl (km kd) nm sg (Int32.ofNat 0) qm wd td (posn vs nn o wi tp)) :: (181, mtl ts) :: [(182, ia nw), (187, lng nz), (202, ia nl)])) rfl rfl rfl rfl hlen rfl rfl rfl ((m_isWord (k := 17) (ov_hl hlen) (ov_at rfl (ov_lt hlen (by decide))) hk (by decide)).up (by omega)) rfl ?_
        refine bcT_eq rfl (b01_f iw) ?_
        refine rt_ald rfl l0 ?_
        refine rt_ild rfl l1 ?_
        refine ow_pf (l2 := ((180, mcl (Int32.ofNat 0) (Int32.ofNat 0) n lim a pl (km kd) nm sg (Int32.ofNat 0) qm wd td (posn vs nn o wi aa)) :: (181, mtl ts) :: [(182, ia nw), (187, lng nz), (202, ia nl)])) rfl rfl rfl rfl rfl hlen rfl rfl ?_
        refine rt_ico rfl ki_1 ?_
        exact ow_irt rfl rfl rfl
theorem rc3_110 {B : Nat → Nat} {bs ts : List Int32} {vs : Nat → Value} {n lim : Nat} {P : Nat} {Dn : Nat} {lw : Int32} {cl : Int32} {id : Int32} {gl : Nat} {bo : Nat} {pn : List Int64} {ri : List Int32} {lf : List Int32} {wa : List Int32} {fo : List Int32} {dn : List Int64} {ha : List Int32} {pa : List Int32} {bl : List Int32} {nw : List Int32} {nz : List Int64} (hB : BY bs B) (hM : MY ts B) (hb : ∀ i, B i < 256) (hn : n ≤ 940) (hl : lim ≤ 940) {wi KX KY : Nat} (hS : SO3_110 bs ts vs n lim P Dn lw cl id gl bo pn ri lf wa fo dn ha pa bl nw nz KX 141 [.ref 110, .ref 1, .ref 3, .int (Int32.ofNat (wi + 1))] KY 245 wi) : SO3_110 bs ts vs n lim P Dn lw cl id gl bo pn ri lf wa fo dn ha pa bl nw nz (KX + 4) 142 [.ref 110, .ref 1, .ref 3, .int (Int32.ofNat (wi + 1))] (KY + 4) 263 wi := by
  intro k a kd pl w le nu tk td fp nm sg qm wd o s nn tp ws sgl nbl nl t ho hnn htp sx ln
  rcases hS _ a kd pl w le nu tk td fp nm sg qm wd o s nn tp ws sgl nbl nl t ho hnn htp sx ln with ⟨T, M, o2, s2, nn2, tp2, ws2, sl2, nb2, nl2, f, sx2, h⟩ | ⟨k2, tk2, td2, T2, M2, o2, s2, nn2, tp2, ws2, sl2, nb2, nl2, c2, o1, o2b, on, tp2b, sx2, ln2, h⟩
  · refine Or.inl ⟨T, M, o2, s2, nn2, tp2, ws2, sl2, nb2, nl2, f, sx2, fun H hlen => ?_, fun H hlen => ?_⟩
    · refine FR_st2 (l2 := ((1, T) :: (2, bcl bs) :: [(3, dcl3 P Dn lw cl id gl bo), (4, lng pn), (5, ia ri), (6, ia lf), (7, ia wa), (8, ia fo), (9, lng dn), (10, ia ha), (11, ia pa), (12, ia bl), (110, .inr (7, [.int (Int32.ofNat o2), .int (Int32.ofNat s2), .ref 111, .ref 112, .ref 113, .ref 114])), (111, wrd ws2), (112, ia sl2), (113, ia nb2)])) rfl rfl rfl ?_
      refine RT_step (pc2 := 1) rfl (fun _ _ => rfl) ?_
      refine RT_step (pc2 := 2) rfl (fun _ _ => rfl) ?_
      refine RT_step (pc2 := 3) rfl (fun _ _ => rfl) ?_
      refine RT_step (pc2 := 4) rfl (fun _ _ => rfl) ?_
      refine ow_iv1 (l2 := ((1, T) :: (2, bcl bs) :: [(3, dcl3 P Dn lw cl id gl bo), (4, lng pn), (5, ia ri), (6, ia lf), (7, ia wa), (8, ia fo), (9, lng dn), (10, ia ha), (11, ia pa), (12, ia bl), (110, .inr (7, [.int (Int32.ofNat o2), .int (Int32.ofNat s2), .ref 111, .ref 112, .ref 113, .ref 114])), (111, wrd ws2), (112, ia sl2), (113, ia nb2)])) rfl rfl rfl rfl hlen rfl rfl rfl ((h.1 H hlen).up (by omega)) rfl ?_
      refine RT_step (pc2 := 9) rfl (fun _ _ => rfl) ?_
      refine rt_ico rfl ki_0 ?_
      refine RT_step (pc2 := 12) rfl (fun _ _ => rfl) ?_
      refine RT_step (pc2 := 14) rfl (fun _ _ => rfl) ?_
      refine rt_bip rfl k8_20 ?_
      refine biF_ge rfl (n_nle (by decide) (by decide)) ?_
      refine RT_step (pc2 := 21) rfl (fun _ _ => rfl) ?_
      refine bcT_eq rfl rfl ?_
      refine RT_step (pc2 := 64) rfl (fun _ _ => rfl) ?_
      exact ow_irt rfl rfl rfl
    · refine FR_st2 (l2 := ((180, M) :: (181, mtl ts) :: [(182, ia nw), (187, lng nz), (202, ia nl2)])) rfl rfl rfl ?_
      refine RT_step (pc2 := 1) rfl (fun _ _ => rfl) ?_
      refine ow_iv1 (l2 := ((180, M) :: (181, mtl ts) :: [(182, ia nw), (187, lng nz), (202, ia nl2)])) rfl rfl rfl rfl hlen rfl rfl rfl ((h.2 H hlen).up (by omega)) rfl ?_
      refine bcT_ne rfl rfl ?_
      refine rt_ico rfl ki_0 ?_
      exact ow_irt rfl rfl rfl
  · obtain ⟨a2, kd2, pl2, w2, le2, nu2, fp2, nm2, sg2, qm2, wd2, rfl, rfl, t2⟩ := c2
    rcases rcL3_110 hB hM hb hn hl hS 20 0 rfl k2 a2 kd2 pl2 w2 le2 nu2 tk2 td2 fp2 nm2 sg2 qm2 wd2 o2 s2 nn2 tp2 tp2 ws2 sl2 nb2 nl2 t2 (by omega) o2b (by omega) tp2b tp2b sx2 ln2 with ⟨T, M, o4, s4, nn4, tp4, ws4, sg4, nb4, nl4, f, sx4, g1, g2⟩ | ⟨k4, tk4, td4, T4, M4, o4, s4, nn4, tp4, ws4, sg4, nb4, nl4, c4, q1, q2, q3, q4, sx4, ln4, g1, g2⟩
    · refine Or.inl ⟨T, M, o4, s4, nn4, tp4, ws4, sg4, nb4, nl4, f, sx4, fun H hlen => ?_, fun H hlen => ?_⟩
      · refine FR_st2 (l2 := ((1, T) :: (2, bcl bs) :: [(3, dcl3 P Dn lw cl id gl bo), (4, lng pn), (5, ia ri), (6, ia lf), (7, ia wa), (8, ia fo), (9, lng dn), (10, ia ha), (11, ia pa), (12, ia bl), (110, .inr (7, [.int (Int32.ofNat o4), .int (Int32.ofNat s4), .ref 111, .ref 112, .ref 113, .ref 114])), (111, wrd ws4), (112, ia sg4), (113, ia nb4)])) rfl rfl rfl ?_
        refine RT_step (pc2 := 1) rfl (fun _ _ => rfl) ?_
        refine RT_step (pc2 := 2) rfl (fun _ _ => rfl) ?_
        refine RT_step (pc2 := 3) rfl (fun _ _ => rfl) ?_
        refine RT_step (pc2 := 4) rfl (fun _ _ => rfl) ?_
        refine ow_iv1 (l2 := ((1, tcl n lim a2 kd2 pl2 w2 le2 nu2 tk2 (Int32.ofNat 0) fp2) :: (2, bcl bs) :: [(3, dcl3 P Dn lw cl id gl bo), (4, lng pn), (5, ia ri), (6, ia lf), (7, ia wa), (8, ia fo), (9, lng dn), (10, ia ha), (11, ia pa), (12, ia bl), (110, .inr (7, [.int (Int32.ofNat o2), .int (Int32.ofNat s2), .ref 111, .ref 112, .ref 113, .ref 114])), (111, wrd ws2), (112, ia sl2), (113, ia nb2)])) rfl rfl rfl rfl hlen rfl rfl rfl ((h.1 H hlen).up (by omega)) rfl ?_
        refine RT_step (pc2 := 9) rfl (fun _ _ => rfl) ?_
        refine rt_ico rfl ki_0 ?_
        refine RT_step (pc2 := 12) rfl (fun _ _ => rfl) ?_
        exact g1 H _ hlen rfl rfl rfl rfl rfl rfl
      · refine FR_st2 (l2 := ((180, M) :: (181, mtl ts) :: [(182, ia nw), (187, lng nz), (202, ia nl4)])) rfl rfl rfl ?_
        refine RT_step (pc2 := 1) rfl (fun _ _ => rfl) ?_
        refine ow_iv1 (l2 := ((180, mcl (Int32.ofNat 0) (Int32.ofNat 0) n lim a2 pl2 (km kd2) nm2 sg2 (Int32.ofNat 0) qm2 wd2 td2 (posn vs nn2 o2 wi tp2)) :: (181, mtl ts) :: [(182, ia nw), (187, lng nz), (202, ia nl2)])) rfl rfl rfl rfl hlen rfl rfl rfl ((h.2 H hlen).up (by omega)) rfl ?_
        refine bcF_ne rfl (by decide) ?_
        refine RT_step (pc2 := 10) rfl (fun _ _ => rfl) ?_
        refine ow_gf rfl rfl rfl hlen rfl ?_
        refine RT_step (pc2 := 14) rfl (fun _ _ => rfl) ?_
        exact g2 H _ hlen rfl rfl
    · refine Or.inr ⟨k4, tk4, td4, T4, M4, o4, s4, nn4, tp4, ws4, sg4, nb4, nl4, c4, by omega, q2, by omega, q4, sx4, ln4, fun H hlen => ?_, fun H hlen => ?_⟩
      · refine FR_st2 (l2 := ((1, T4) :: (2, bcl bs) :: [(3, dcl3 P Dn lw cl id gl bo), (4, lng pn), (5, ia ri), (6, ia lf), (7, ia wa), (8, ia fo), (9, lng dn), (10, ia ha), (11, ia pa), (12, ia bl), (110, .inr (7, [.int (Int32.ofNat o4), .int (Int32.ofNat s4), .ref 111, .ref 112, .ref 113, .ref 114])), (111, wrd ws4), (112, ia sg4), (113, ia nb4)])) rfl rfl rfl ?_
        refine RT_step (pc2 := 1) rfl (fun _ _ => rfl) ?_
        refine RT_step (pc2 := 2) rfl (fun _ _ => rfl) ?_
        refine RT_step (pc2 := 3) rfl (fun _ _ => rfl) ?_
        refine RT_step (pc2 := 4) rfl (fun _ _ => rfl) ?_
        refine ow_iv1 (l2 := ((1, tcl n lim a2 kd2 pl2 w2 le2 nu2 tk2 (Int32.ofNat 0) fp2) :: (2, bcl bs) :: [(3, dcl3 P Dn lw cl id gl bo), (4, lng pn), (5, ia ri), (6, ia lf), (7, ia wa), (8, ia fo), (9, lng dn), (10, ia ha), (11, ia pa), (12, ia bl), (110, .inr (7, [.int (Int32.ofNat o2), .int (Int32.ofNat s2), .ref 111, .ref 112, .ref 113, .ref 114])), (111, wrd ws2), (112, ia sl2), (113, ia nb2)])) rfl rfl rfl rfl hlen rfl rfl rfl ((h.1 H hlen).up (by omega)) rfl ?_
        refine RT_step (pc2 := 9) rfl (fun _ _ => rfl) ?_
        refine rt_ico rfl ki_0 ?_
        refine RT_step (pc2 := 12) rfl (fun _ _ => rfl) ?_
        exact g1 H _ hlen rfl rfl rfl rfl rfl rfl
      · refine FR_st2 (l2 := ((180, M4) :: (181, mtl ts) :: [(182, ia nw), (187, lng nz), (202, ia nl4)])) rfl rfl rfl ?_
        refine RT_step (pc2 := 1) rfl (fun _ _ => rfl) ?_
        refine ow_iv1 (l2 := ((180, mcl (Int32.ofNat 0) (Int32.ofNat 0) n lim a2 pl2 (km kd2) nm2 sg2 (Int32.ofNat 0) qm2 wd2 td2 (posn vs nn2 o2 wi tp2)) :: (181, mtl ts) :: [(182, ia nw), (187, lng nz), (202, ia nl2)])) rfl rfl rfl rfl hlen rfl rfl rfl ((h.2 H hlen).up (by omega)) rfl ?_
        refine bcF_ne rfl (by decide) ?_
        refine RT_step (pc2 := 10) rfl (fun _ _ => rfl) ?_
        refine ow_gf rfl rfl rfl hlen rfl ?_
        refine RT_step (pc2 := 14) rfl (fun _ _ => rfl) ?_
        exact g2 H _ hlen rfl rfl
theorem so_up3_110 {bs ts : List Int32} {vs : Nat → Value} {n lim : Nat} {P : Nat} {Dn : Nat} {lw : Int32} {cl : Int32} {id : Int32} {gl : Nat} {bo : Nat} {pn : List Int64} {ri : List Int32} {lf : List Int32} {wa : List Int32} {fo : List Int32} {dn : List Int64} {ha : List Int32} {pa : List Int32} {bl : List Int32} {nw : List Int32} {nz : List Int64} {kx x ky m wi kx2 ky2 : Nat} {Ax : List Value} (h : SO3_110 bs ts vs n lim P Dn lw cl id gl bo pn ri lf wa fo dn ha pa bl nw nz kx x Ax ky m wi) (h1 : kx ≤ kx2) (h2 : ky ≤ ky2) : SO3_110 bs ts vs n lim P Dn lw cl id gl bo pn ri lf wa fo dn ha pa bl nw nz kx2 x Ax ky2 m wi := by
  intro k a kd pl w le nu tk td fp nm sg qm wd o s nn tp ws sgl nbl nl t ho hnn htp sx ln
  rcases h k a kd pl w le nu tk td fp nm sg qm wd o s nn tp ws sgl nbl nl t ho hnn htp sx ln with ⟨T, M, o2, s2, nn2, tp2, ws2, sl2, nb2, nl2, f, sx2, g⟩ | ⟨k2, tk2, td2, T2, M2, o2, s2, nn2, tp2, ws2, sl2, nb2, nl2, c2, o1, o2b, on, tp2b, sx2, ln2, g⟩
  · exact Or.inl ⟨T, M, o2, s2, nn2, tp2, ws2, sl2, nb2, nl2, f, sx2, fun H hlen => (g.1 H hlen).up h1, fun H hlen => (g.2 H hlen).up h2⟩
  · exact Or.inr ⟨k2, tk2, td2, T2, M2, o2, s2, nn2, tp2, ws2, sl2, nb2, nl2, c2, o1, o2b, on, tp2b, sx2, ln2, fun H hlen => (g.1 H hlen).up h1, fun H hlen => (g.2 H hlen).up h2⟩
theorem so_all3_110 {B : Nat → Nat} {bs ts : List Int32} {vs : Nat → Value} {n lim : Nat} {P : Nat} {Dn : Nat} {lw : Int32} {cl : Int32} {id : Int32} {gl : Nat} {bo : Nat} {pn : List Int64} {ri : List Int32} {lf : List Int32} {wa : List Int32} {fo : List Int32} {dn : List Int64} {ha : List Int32} {pa : List Int32} {bl : List Int32} {nw : List Int32} {nz : List Int64} (hB : BY bs B) (hM : MY ts B) (hb : ∀ i, B i < 256) (hn : n ≤ 940) (hl : lim ≤ 940) (hP : P ≤ 7) (lp : pn.length = 7) (lz : nz.length = 15) (hv : nw[0]? = some (Int32.ofNat P)) (hN : ∀ i, i < P → ∃ ss, nok ss ∧ pn[i]? = some (p5 ss) ∧ nz[0 + i]? = some (p27 ss)) : ∀ (r wi : Nat), wi + r = 8 → SO3_110 bs ts vs n lim P Dn lw cl id gl bo pn ri lf wa fo dn ha pa bl nw nz (16 * r + 8) 145 [.ref 110, .ref 1, .ref 3, .int (Int32.ofNat (wi + 1))] (18 * r + 10) 266 wi := by
  intro r
  induction r with
  | zero => intro wi hi; exact so1_3_110 (KX := 0) (KY := 0) hB hM hb hn hl hP lp lz hv hN (by omega) (fun h => by omega) (fun h => by omega)
  | succ r ih =>
    intro wi hi
    have h1 := ih (wi + 1) (by omega)
    have h2 := rc3_110 hB hM hb hn hl (ra3_110 hB hM hb hn hl h1)
    refine so_up3_110 (so1_3_110 (KX := 16 * r + 16) (KY := 18 * r + 18) hB hM hb hn hl hP lp lz hv hN (by omega) (fun _ => so_up3_110 h2 (by omega) (by omega)) (fun _ => so_up3_110 h1 (by omega) (by omega))) (by omega) (by omega)
theorem raL3_115 {B : Nat → Nat} {bs ts : List Int32} {vs : Nat → Value} {n lim : Nat} {P : Nat} {Dn : Nat} {lw : Int32} {cl : Int32} {id : Int32} {gl : Nat} {bo : Nat} {pn : List Int64} {ri : List Int32} {lf : List Int32} {wa : List Int32} {fo : List Int32} {dn : List Int64} {ha : List Int32} {pa : List Int32} {bl : List Int32} {nw : List Int32} {nz : List Int64} (hB : BY bs B) (hM : MY ts B) (hb : ∀ i, B i < 256) (hn : n ≤ 940) (hl : lim ≤ 940) {wi KX KY : Nat} (hS : SO3_115 bs ts vs n lim P Dn lw cl id gl bo pn ri lf wa fo dn ha pa bl nw nz KX 145 [.ref 115, .ref 1, .ref 3, .int (Int32.ofNat (wi + 1))] KY 266 wi) : ∀ (r ii : Nat), ii + r = 20 → ∀ (k a kd pl w : Nat) (le : Int64) (nu tk td fp nm sg qm : Int32) (wd : Int64) (o s nn tp aa : Nat) (ws : List (Option Nat)) (sgl nbl nl : List Int32), TF k n a kd w le nu nm sg wd → ii + 1 ≤ o → o ≤ 20 → nn + 1 ≤ 2 * o → tp < 60 → aa < 60 → SX s ws sgl nbl → nl.length = 240 → (∃ (T M : AE) (o2 s2 nn2 tp2 : Nat) (ws2 : List (Option Nat)) (sl2 nb2 nl2 : List Int32), FC n lim (posn vs nn2 o2 wi tp2) T M ∧ SX s2 ws2 sl2 nb2 ∧ (∀ (H : List AE) (L : List (Nat × Value)), Nat.ble 204 H.length = true → ev_g L 0 = some (.ref 115) → ev_g L 1 = some (.ref 1) → ev_g L 2 = some (.ref 3) → ev_g L 3 = some (.int (Int32.ofNat (wi + 1))) → ev_g L 4 = some (.int (Int32.ofNat 1)) → ev_g L 5 = some (.int (Int32.ofNat ii)) → RT MM (KX + 3) 141 12 L [] (ov H ((1, tcl n lim a kd pl w le nu tk (Int32.ofNat 0) fp) :: (2, bcl bs) :: [(3, dcl3 P Dn lw cl id gl bo), (4, lng pn), (5, ia ri), (6, ia lf), (7, ia wa), (8, ia fo), (9, lng dn), (10, ia ha), (11, ia pa), (12, ia bl), (115, .inr (7, [.int (Int32.ofNat o), .int (Int32.ofNat s), .ref 116, .ref 117, .ref 118, .ref 119])), (116, wrd ws), (117, ia sgl), (118, ia nbl)])) (some (.int (Int32.ofNat 0)), ov H ((1, T) :: (2, bcl bs) :: [(3, dcl3 P Dn lw cl id gl bo), (4, lng pn), (5, ia ri), (6, ia lf), (7, ia wa), (8, ia fo), (9, lng dn), (10, ia ha), (11, ia pa), (12, ia bl), (115, .inr (7, [.int (Int32.ofNat o2), .int (Int32.ofNat s2), .ref 116, .ref 117, .ref 118, .ref 119])), (116, wrd ws2), (117, ia sl2), (118, ia nb2)]))) ∧ (∀ (H : List AE) (L : List (Nat × Value)), Nat.ble 204 H.length = true → ev_g L 0 = some (.ref 180) → ev_g L 1 = some (.int (Int32.ofNat aa)) → RT MM (KY + 3) 245 14 L [] (ov H ((180, mcl (Int32.ofNat 0) (Int32.ofNat 0) n lim a pl (km kd) nm sg (Int32.ofNat 0) qm wd td (posn vs nn o wi tp)) :: (181, mtl ts) :: [(182, ia nw), (187, lng nz), (202, ia nl)])) (some (.int (Int32.ofNat 0)), ov H ((180, M) :: (181, mtl ts) :: [(182, ia nw), (187, lng nz), (202, ia nl2)])))) ∨ (∃ (k2 : Nat) (tk2 td2 : Int32) (T M : AE) (o2 s2 nn2 tp2 : Nat) (ws2 : List (Option Nat)) (sl2 nb2 nl2 : List Int32), TC n lim (posn vs nn2 o2 wi tp2) k2 tk2 td2 T M ∧ o ≤ o2 ∧ o2 ≤ 20 ∧ nn2 + 2 * o ≤ nn + 2 * o2 ∧ tp2 < 60 ∧ SX s2 ws2 sl2 nb2 ∧ nl2.length = 240 ∧ (∀ (H : List AE) (L : List (Nat × Value)), Nat.ble 204 H.length = true → ev_g L 0 = some (.ref 115) → ev_g L 1 = some (.ref 1) → ev_g L 2 = some (.ref 3) → ev_g L 3 = some (.int (Int32.ofNat (wi + 1))) → ev_g L 4 = some (.int (Int32.ofNat 1)) → ev_g L 5 = some (.int (Int32.ofNat ii)) → RT MM (KX + 3) 141 12 L [] (ov H ((1, tcl n lim a kd pl w le nu tk (Int32.ofNat 0) fp) :: (2, bcl bs) :: [(3, dcl3 P Dn lw cl id gl bo), (4, lng pn), (5, ia ri), (6, ia lf), (7, ia wa), (8, ia fo), (9, lng dn), (10, ia ha), (11, ia pa), (12, ia bl), (115, .inr (7, [.int (Int32.ofNat o), .int (Int32.ofNat s), .ref 116, .ref 117, .ref 118, .ref 119])), (116, wrd ws), (117, ia sgl), (118, ia nbl)])) (some (.int (Int32.ofNat 1)), ov H ((1, T) :: (2, bcl bs) :: [(3, dcl3 P Dn lw cl id gl bo), (4, lng pn), (5, ia ri), (6, ia lf), (7, ia wa), (8, ia fo), (9, lng dn), (10, ia ha), (11, ia pa), (12, ia bl), (115, .inr (7, [.int (Int32.ofNat o2), .int (Int32.ofNat s2), .ref 116, .ref 117, .ref 118, .ref 119])), (116, wrd ws2), (117, ia sl2), (118, ia nb2)]))) ∧ (∀ (H : List AE) (L : List (Nat × Value)), Nat.ble 204 H.length = true → ev_g L 0 = some (.ref 180) → ev_g L 1 = some (.int (Int32.ofNat aa)) → RT MM (KY + 3) 245 14 L [] (ov H ((180, mcl (Int32.ofNat 0) (Int32.ofNat 0) n lim a pl (km kd) nm sg (Int32.ofNat 0) qm wd td (posn vs nn o wi tp)) :: (181, mtl ts) :: [(182, ia nw), (187, lng nz), (202, ia nl)])) (some (.int (Int32.ofNat 1)), ov H ((180, M) :: (181, mtl ts) :: [(182, ia nw), (187, lng nz), (202, ia nl2)])))) := by
  intro r
  induction r with
  | zero => intro ii hi k a kd pl w le nu tk td fp nm sg qm wd o s nn tp aa ws sgl nbl nl t h1 h2; omega
  | succ r ih =>
    intro ii hi k a kd pl w le nu tk td fp nm sg qm wd o s nn tp aa ws sgl nbl nl t h1 ho hnn htp haa sx ln
    have hk := (km_is kd t.2.2.2.1).2.2.2.2.2
    have hw := t.2.2.2.2.1
    have iw := w_is t (show 18 < 30 by decide)
    by_cases c : w = 21
    · have iw : isW (km kd) wd 18 = true := by rw [iw]; exact decide_eq_true c
      have hk1 := w_k1 t (by omega)
      obtain ⟨T1, M1, c1, x1, m1⟩ := s_adv hB hM hb hn hl (po := (posn vs nn o wi tp)) (pl := pl) (tk := tk) (td := td) (fp := fp) (plM := qm) t (by omega) (by omega)
      obtain ⟨a1, kd1, pl1, w1, le1, nu1, fp1, nm1, sg1, qm1, wd1, rfl, rfl, t1⟩ := c1
      rcases hS _ a1 kd1 pl1 w1 le1 nu1 tk td fp1 nm1 sg1 qm1 wd1 o s nn tp ws sgl nbl nl t1 ho (by omega) htp sx ln with ⟨T, M, o2, s2, nn2, tp2, ws2, sl2, nb2, nl2, f, sx2, h⟩ | ⟨k2, tk2, td2, T2, M2, o2, s2, nn2, tp2, ws2, sl2, nb2, nl2, c2, o1, o2b, on, tp2b, sx2, ln2, h⟩
      · obtain ⟨s3, ws3, sl3, nb3, sx3, hadd⟩ := sx_add115 sx2 (w := 21) (by decide) (Int32.ofNat 0) (Int32.ofNat 0)
        have f0 := f
        obtain ⟨a9, kd9, pl9, w9, le9, nu9, tk9, kk9, am9, fm9, kM9, nm9, sg9, fa9, qm9, wd9, td9, rfl, rfl, f9⟩ := f
        refine Or.inl ⟨tcl n lim a9 kd9 pl9 w9 le9 nu9 tk9 (Int32.ofNat kk9) (Int32.ofNat pl9), mcl (Int32.ofNat 0) (Int32.ofNat 0) n lim am9 fm9 kM9 nm9 sg9 fa9 qm9 wd9 td9 (posn vs nn2 o2 wi tp2), o2, s3, nn2, tp2, ws3, sl3, nb3, nl2, f0, sx3, fun H L hlen l0 l1 l2 l3 l4 l5 => ?_, fun H L hlen l0 l1 => ?_⟩
        · refine rt_il2 rfl l5 ?_
          refine rt_bip rfl k8_20 ?_
          refine biF_ge rfl (n_nle (by omega) (by decide)) ?_
          refine rt_il2 rfl l4 ?_
          refine bcF_eq rfl (by decide) ?_
          refine rt_ald rfl l1 ?_
          refine ow_gf rfl rfl rfl hlen rfl ?_
          refine RT_step (pc2 := 31) rfl (fun _ _ => rfl) ?_
          refine rt_acN rfl (by omega) (by omega) ?_
          refine RT_if c ?_
          refine rt_ald rfl l1 ?_
          refine ow_iv0 (l2 := ((1, tcl n lim a1 kd1 pl1 w1 le1 nu1 tk (Int32.ofNat 0) fp1) :: (2, bcl bs) :: [(3, dcl3 P Dn lw cl id gl bo), (4, lng pn), (5, ia ri), (6, ia lf), (7, ia wa), (8, ia fo), (9, lng dn), (10, ia ha), (11, ia pa), (12, ia bl), (115, .inr (7, [.int (Int32.ofNat o), .int (Int32.ofNat s), .ref 116, .ref 117, .ref 118, .ref 119])), (116, wrd ws), (117, ia sgl), (118, ia nbl)])) rfl rfl rfl rfl hlen rfl rfl rfl ((x1 _ (ov_hl hlen) (ov_at rfl (ov_lt hlen (by decide))) (ov_at rfl (ov_lt hlen (by decide)))).up (by omega)) rfl ?_
          refine rt_ald rfl l0 ?_
          refine rt_ald rfl l1 ?_
          refine rt_ald rfl l2 ?_
          refine rt_ild rfl l3 ?_
          refine ow_iv1 (l2 := ((1, tcl n lim a9 kd9 pl9 w9 le9 nu9 tk9 (Int32.ofNat kk9) (Int32.ofNat pl9)) :: (2, bcl bs) :: [(3, dcl3 P Dn lw cl id gl bo), (4, lng pn), (5, ia ri), (6, ia lf), (7, ia wa), (8, ia fo), (9, lng dn), (10, ia ha), (11, ia pa), (12, ia bl), (115, .inr (7, [.int (Int32.ofNat o2), .int (Int32.ofNat s2), .ref 116, .ref 117, .ref 118, .ref 119])), (116, wrd ws2), (117, ia sl2), (118, ia nb2)])) rfl rfl rfl rfl hlen rfl rfl rfl ((h.1 H hlen).up (by omega)) rfl ?_
          refine rt_is2 rfl (by decide +kernel) ?_
          refine rt_ald rfl (gs_o rfl l0 rfl) ?_
          refine RT_step (pc2 := 51) rfl (fun _ _ => rfl) ?_
          refine rt_ico rfl ki_0 ?_
          refine rt_ico rfl ki_0 ?_
          refine ow_iv0 (l2 := ((1, tcl n lim a9 kd9 pl9 w9 le9 nu9 tk9 (Int32.ofNat kk9) (Int32.ofNat pl9)) :: (2, bcl bs) :: [(3, dcl3 P Dn lw cl id gl bo), (4, lng pn), (5, ia ri), (6, ia lf), (7, ia wa), (8, ia fo), (9, lng dn), (10, ia ha), (11, ia pa), (12, ia bl), (115, .inr (7, [.int (Int32.ofNat o2), .int (Int32.ofNat s3), .ref 116, .ref 117, .ref 118, .ref 119])), (116, wrd ws3), (117, ia sl3), (118, ia nb3)])) rfl rfl rfl rfl hlen rfl rfl rfl ((hadd _ _ (ov_hl hlen) (ov_at rfl (ov_lt hlen (by decide))) (ov_at rfl (ov_lt hlen (by decide))) (ov_at rfl (ov_lt hlen (by decide))) (ov_at rfl (ov_lt hlen (by decide)))).up (by omega)) rfl ?_
          refine rt_inc rfl (gs_o rfl l5 rfl) (by decide +kernel) ?_
          rw [in_1]
          refine RT_step (pc2 := 12) rfl (fun _ _ => rfl) ?_
          by_cases c9 : ii + 1 < 20
          · refine rt_il2 rfl gs_n ?_
            refine rt_bip rfl k8_20 ?_
            refine biF_ge rfl (n_nle (by omega) (by omega)) ?_
            refine rt_il2 rfl (gs_o rfl gs_n rfl) ?_
            refine bcT_eq rfl rfl ?_
            refine rt_il2 rfl (gs_o rfl gs_n rfl) ?_
            exact ow_irt rfl rfl rfl
          · refine rt_il2 rfl gs_n ?_
            refine rt_bip rfl k8_20 ?_
            refine biT_ge rfl (n_le (by omega) (by omega)) ?_
            refine rt_il2 rfl (gs_o rfl gs_n rfl) ?_
            exact ow_irt rfl rfl rfl
        · refine rt_ald rfl l0 ?_
          refine rt_bip rfl k8_18 ?_
          refine ow_iv1 (l2 := ((180, mcl (Int32.ofNat 0) (Int32.ofNat 0) n lim a pl (km kd) nm sg (Int32.ofNat 0) qm wd td (posn vs nn o wi tp)) :: (181, mtl ts) :: [(182, ia nw), (187, lng nz), (202, ia nl)])) rfl rfl rfl rfl hlen rfl rfl rfl ((m_isWord (k := 18) (ov_hl hlen) (ov_at rfl (ov_lt hlen (by decide))) hk (by decide)).up (by omega)) rfl ?_
          refine bcF_eq rfl (b01_t iw) ?_
          refine rt_ald rfl l0 ?_
          refine ow_iv0 (l2 := ((180, mcl (Int32.ofNat 0) (Int32.ofNat 0) n lim a1 pl1 (km kd1) nm1 sg1 (Int32.ofNat 0) qm1 wd1 td (posn vs nn o wi tp)) :: (181, mtl ts) :: [(182, ia nw), (187, lng nz), (202, ia nl)])) rfl rfl rfl rfl hlen rfl rfl rfl ((m1 _ (ov_hl hlen) (ov_at rfl (ov_lt hlen (by decide))) (ov_at rfl (ov_lt hlen (by decide)))).up (by omega)) rfl ?_
          refine rt_ald rfl l0 ?_
          refine ow_iv1 (l2 := ((180, mcl (Int32.ofNat 0) (Int32.ofNat 0) n lim am9 fm9 kM9 nm9 sg9 fa9 qm9 wd9 td9 (posn vs nn2 o2 wi tp2)) :: (181, mtl ts) :: [(182, ia nw), (187, lng nz), (202, ia nl2)])) rfl rfl rfl rfl hlen rfl rfl rfl ((h.2 H hlen).up (by omega)) rfl ?_
          refine bcT_ne rfl rfl ?_
          refine rt_ico rfl ki_0 ?_
          exact ow_irt rfl rfl rfl
      · obtain ⟨a2, kd2, pl2, w2, le2, nu2, fp2, nm2, sg2, qm2, wd2, rfl, rfl, t2⟩ := c2
        obtain ⟨s3, ws3, sl3, nb3, sx3, hadd⟩ := sx_add115 sx2 (w := 21) (by decide) (Int32.ofNat 0) (Int32.ofNat 0)
        have ln3 : ((((nl2.set (4 * nn2) (Int32.ofNat 2)).set (4 * nn2 + 1) (Int32.ofNat aa)).set (4 * nn2 + 2) (Int32.ofNat tp2)).set (4 * nn2 + 3) (Int32.ofNat 0)).length = 240 := by simp only [List.length_set]; exact ln2
        rcases ih (ii + 1) (by omega) k2 a2 kd2 pl2 w2 le2 nu2 tk2 td2 fp2 nm2 sg2 qm2 wd2 o2 s3 (nn2 + 1) tp2 nn2 ws3 sl3 nb3 ((((nl2.set (4 * nn2) (Int32.ofNat 2)).set (4 * nn2 + 1) (Int32.ofNat aa)).set (4 * nn2 + 2) (Int32.ofNat tp2)).set (4 * nn2 + 3) (Int32.ofNat 0)) t2 (by omega) o2b (by omega) tp2b (by omega) sx3 ln3 with ⟨T, M, o4, s4, nn4, tp4, ws4, sg4, nb4, nl4, f, sx4, g1, g2⟩ | ⟨k4, tk4, td4, T4, M4, o4, s4, nn4, tp4, ws4, sg4, nb4, nl4, c4, q1, q2, q3, q4, sx4, ln4, g1, g2⟩
        · refine Or.inl ⟨T, M, o4, s4, nn4, tp4, ws4, sg4, nb4, nl4, f, sx4, fun H L hlen l0 l1 l2 l3 l4 l5 => ?_, fun H L hlen l0 l1 => ?_⟩
          · refine rt_il2 rfl l5 ?_
            refine rt_bip rfl k8_20 ?_
            refine biF_ge rfl (n_nle (by omega) (by decide)) ?_
            refine rt_il2 rfl l4 ?_
            refine bcF_eq rfl (by decide) ?_
            refine rt_ald rfl l1 ?_
            refine ow_gf rfl rfl rfl hlen rfl ?_
            refine RT_step (pc2 := 31) rfl (fun _ _ => rfl) ?_
            refine rt_acN rfl (by omega) (by omega) ?_
            refine RT_if c ?_
            refine rt_ald rfl l1 ?_
            refine ow_iv0 (l2 := ((1, tcl n lim a1 kd1 pl1 w1 le1 nu1 tk (Int32.ofNat 0) fp1) :: (2, bcl bs) :: [(3, dcl3 P Dn lw cl id gl bo), (4, lng pn), (5, ia ri), (6, ia lf), (7, ia wa), (8, ia fo), (9, lng dn), (10, ia ha), (11, ia pa), (12, ia bl), (115, .inr (7, [.int (Int32.ofNat o), .int (Int32.ofNat s), .ref 116, .ref 117, .ref 118, .ref 119])), (116, wrd ws), (117, ia sgl), (118, ia nbl)])) rfl rfl rfl rfl hlen rfl rfl rfl ((x1 _ (ov_hl hlen) (ov_at rfl (ov_lt hlen (by decide))) (ov_at rfl (ov_lt hlen (by decide)))).up (by omega)) rfl ?_
            refine rt_ald rfl l0 ?_
            refine rt_ald rfl l1 ?_
            refine rt_ald rfl l2 ?_
            refine rt_ild rfl l3 ?_
            refine ow_iv1 (l2 := ((1, tcl n lim a2 kd2 pl2 w2 le2 nu2 tk2 (Int32.ofNat 0) fp2) :: (2, bcl bs) :: [(3, dcl3 P Dn lw cl id gl bo), (4, lng pn), (5, ia ri), (6, ia lf), (7, ia wa), (8, ia fo), (9, lng dn), (10, ia ha), (11, ia pa), (12, ia bl), (115, .inr (7, [.int (Int32.ofNat o2), .int (Int32.ofNat s2), .ref 116, .ref 117, .ref 118, .ref 119])), (116, wrd ws2), (117, ia sl2), (118, ia nb2)])) rfl rfl rfl rfl hlen rfl rfl rfl ((h.1 H hlen).up (by omega)) rfl ?_
            refine rt_is2 rfl (by decide +kernel) ?_
            refine rt_ald rfl (gs_o rfl l0 rfl) ?_
            refine RT_step (pc2 := 51) rfl (fun _ _ => rfl) ?_
            refine rt_ico rfl ki_0 ?_
            refine rt_ico rfl ki_0 ?_
            refine ow_iv0 (l2 := ((1, tcl n lim a2 kd2 pl2 w2 le2 nu2 tk2 (Int32.ofNat 0) fp2) :: (2, bcl bs) :: [(3, dcl3 P Dn lw cl id gl bo), (4, lng pn), (5, ia ri), (6, ia lf), (7, ia wa), (8, ia fo), (9, lng dn), (10, ia ha), (11, ia pa), (12, ia bl), (115, .inr (7, [.int (Int32.ofNat o2), .int (Int32.ofNat s3), .ref 116, .ref 117, .ref 118, .ref 119])), (116, wrd ws3), (117, ia sl3), (118, ia nb3)])) rfl rfl rfl rfl hlen rfl rfl rfl ((hadd _ _ (ov_hl hlen) (ov_at rfl (ov_lt hlen (by decide))) (ov_at rfl (ov_lt hlen (by decide))) (ov_at rfl (ov_lt hlen (by decide))) (ov_at rfl (ov_lt hlen (by decide)))).up (by omega)) rfl ?_
            refine rt_inc rfl (gs_o rfl l5 rfl) (by decide +kernel) ?_
            rw [in_1]
            refine RT_step (pc2 := 12) rfl (fun _ _ => rfl) ?_
            exact g1 H _ hlen (gs_o rfl (gs_o rfl l0 rfl) rfl) (gs_o rfl (gs_o rfl l1 rfl) rfl) (gs_o rfl (gs_o rfl l2 rfl) rfl) (gs_o rfl (gs_o rfl l3 rfl) rfl) (gs_o rfl gs_n rfl) gs_n
          · refine rt_ald rfl l0 ?_
            refine rt_bip rfl k8_18 ?_
            refine ow_iv1 (l2 := ((180, mcl (Int32.ofNat 0) (Int32.ofNat 0) n lim a pl (km kd) nm sg (Int32.ofNat 0) qm wd td (posn vs nn o wi tp)) :: (181, mtl ts) :: [(182, ia nw), (187, lng nz), (202, ia nl)])) rfl rfl rfl rfl hlen rfl rfl rfl ((m_isWord (k := 18) (ov_hl hlen) (ov_at rfl (ov_lt hlen (by decide))) hk (by decide)).up (by omega)) rfl ?_
            refine bcF_eq rfl (b01_t iw) ?_
            refine rt_ald rfl l0 ?_
            refine ow_iv0 (l2 := ((180, mcl (Int32.ofNat 0) (Int32.ofNat 0) n lim a1 pl1 (km kd1) nm1 sg1 (Int32.ofNat 0) qm1 wd1 td (posn vs nn o wi tp)) :: (181, mtl ts) :: [(182, ia nw), (187, lng nz), (202, ia nl)])) rfl rfl rfl rfl hlen rfl rfl rfl ((m1 _ (ov_hl hlen) (ov_at rfl (ov_lt hlen (by decide))) (ov_at rfl (ov_lt hlen (by decide)))).up (by omega)) rfl ?_
            refine rt_ald rfl l0 ?_
            refine ow_iv1 (l2 := ((180, mcl (Int32.ofNat 0) (Int32.ofNat 0) n lim a2 pl2 (km kd2) nm2 sg2 (Int32.ofNat 0) qm2 wd2 td2 (posn vs nn2 o2 wi tp2)) :: (181, mtl ts) :: [(182, ia nw), (187, lng nz), (202, ia nl2)])) rfl rfl rfl rfl hlen rfl rfl rfl ((h.2 H hlen).up (by omega)) rfl ?_
            refine bcF_ne rfl (by decide) ?_
            refine rt_ald rfl l0 ?_
            refine rt_ico rfl ki_2 ?_
            refine rt_ild rfl l1 ?_
            refine rt_ald rfl l0 ?_
            refine ow_gf rfl rfl rfl hlen rfl ?_
            refine rt_ico rfl ki_0 ?_
            refine ow_iv1 (l2 := ((180, mcl (Int32.ofNat 0) (Int32.ofNat 0) n lim a2 pl2 (km kd2) nm2 sg2 (Int32.ofNat 0) qm2 wd2 td2 (posn vs (nn2 + 1) o2 wi tp2)) :: (181, mtl ts) :: [(182, ia nw), (187, lng nz), (202, ia ((((nl2.set (4 * nn2) (Int32.ofNat 2)).set (4 * nn2 + 1) (Int32.ofNat aa)).set (4 * nn2 + 2) (Int32.ofNat tp2)).set (4 * nn2 + 3) (Int32.ofNat 0)))])) rfl rfl rfl rfl hlen rfl rfl rfl ((m_says (ov_hl hlen) (ov_at rfl (ov_lt hlen (by decide))) (ov_at rfl (ov_lt hlen (by decide))) ln2 (by omega)).up (by omega)) rfl ?_
            refine rt_ist rfl (by decide +kernel) ?_
            refine RT_step (pc2 := 14) rfl (fun _ _ => rfl) ?_
            exact g2 H _ hlen (gs_o rfl l0 rfl) gs_n
        · refine Or.inr ⟨k4, tk4, td4, T4, M4, o4, s4, nn4, tp4, ws4, sg4, nb4, nl4, c4, by omega, q2, by omega, q4, sx4, ln4, fun H L hlen l0 l1 l2 l3 l4 l5 => ?_, fun H L hlen l0 l1 => ?_⟩
          · refine rt_il2 rfl l5 ?_
            refine rt_bip rfl k8_20 ?_
            refine biF_ge rfl (n_nle (by omega) (by decide)) ?_
            refine rt_il2 rfl l4 ?_
            refine bcF_eq rfl (by decide) ?_
            refine rt_ald rfl l1 ?_
            refine ow_gf rfl rfl rfl hlen rfl ?_
            refine RT_step (pc2 := 31) rfl (fun _ _ => rfl) ?_
            refine rt_acN rfl (by omega) (by omega) ?_
            refine RT_if c ?_
            refine rt_ald rfl l1 ?_
            refine ow_iv0 (l2 := ((1, tcl n lim a1 kd1 pl1 w1 le1 nu1 tk (Int32.ofNat 0) fp1) :: (2, bcl bs) :: [(3, dcl3 P Dn lw cl id gl bo), (4, lng pn), (5, ia ri), (6, ia lf), (7, ia wa), (8, ia fo), (9, lng dn), (10, ia ha), (11, ia pa), (12, ia bl), (115, .inr (7, [.int (Int32.ofNat o), .int (Int32.ofNat s), .ref 116, .ref 117, .ref 118, .ref 119])), (116, wrd ws), (117, ia sgl), (118, ia nbl)])) rfl rfl rfl rfl hlen rfl rfl rfl ((x1 _ (ov_hl hlen) (ov_at rfl (ov_lt hlen (by decide))) (ov_at rfl (ov_lt hlen (by decide)))).up (by omega)) rfl ?_
            refine rt_ald rfl l0 ?_
            refine rt_ald rfl l1 ?_
            refine rt_ald rfl l2 ?_
            refine rt_ild rfl l3 ?_
            refine ow_iv1 (l2 := ((1, tcl n lim a2 kd2 pl2 w2 le2 nu2 tk2 (Int32.ofNat 0) fp2) :: (2, bcl bs) :: [(3, dcl3 P Dn lw cl id gl bo), (4, lng pn), (5, ia ri), (6, ia lf), (7, ia wa), (8, ia fo), (9, lng dn), (10, ia ha), (11, ia pa), (12, ia bl), (115, .inr (7, [.int (Int32.ofNat o2), .int (Int32.ofNat s2), .ref 116, .ref 117, .ref 118, .ref 119])), (116, wrd ws2), (117, ia sl2), (118, ia nb2)])) rfl rfl rfl rfl hlen rfl rfl rfl ((h.1 H hlen).up (by omega)) rfl ?_
            refine rt_is2 rfl (by decide +kernel) ?_
            refine rt_ald rfl (gs_o rfl l0 rfl) ?_
            refine RT_step (pc2 := 51) rfl (fun _ _ => rfl) ?_
            refine rt_ico rfl ki_0 ?_
            refine rt_ico rfl ki_0 ?_
            refine ow_iv0 (l2 := ((1, tcl n lim a2 kd2 pl2 w2 le2 nu2 tk2 (Int32.ofNat 0) fp2) :: (2, bcl bs) :: [(3, dcl3 P Dn lw cl id gl bo), (4, lng pn), (5, ia ri), (6, ia lf), (7, ia wa), (8, ia fo), (9, lng dn), (10, ia ha), (11, ia pa), (12, ia bl), (115, .inr (7, [.int (Int32.ofNat o2), .int (Int32.ofNat s3), .ref 116, .ref 117, .ref 118, .ref 119])), (116, wrd ws3), (117, ia sl3), (118, ia nb3)])) rfl rfl rfl rfl hlen rfl rfl rfl ((hadd _ _ (ov_hl hlen) (ov_at rfl (ov_lt hlen (by decide))) (ov_at rfl (ov_lt hlen (by decide))) (ov_at rfl (ov_lt hlen (by decide))) (ov_at rfl (ov_lt hlen (by decide)))).up (by omega)) rfl ?_
            refine rt_inc rfl (gs_o rfl l5 rfl) (by decide +kernel) ?_
            rw [in_1]
            refine RT_step (pc2 := 12) rfl (fun _ _ => rfl) ?_
            exact g1 H _ hlen (gs_o rfl (gs_o rfl l0 rfl) rfl) (gs_o rfl (gs_o rfl l1 rfl) rfl) (gs_o rfl (gs_o rfl l2 rfl) rfl) (gs_o rfl (gs_o rfl l3 rfl) rfl) (gs_o rfl gs_n rfl) gs_n
          · refine rt_ald rfl l0 ?_
            refine rt_bip rfl k8_18 ?_
            refine ow_iv1 (l2 := ((180, mcl (Int32.ofNat 0) (Int32.ofNat 0) n lim a pl (km kd) nm sg (Int32.ofNat 0) qm wd td (posn vs nn o wi tp)) :: (181, mtl ts) :: [(182, ia nw), (187, lng nz), (202, ia nl)])) rfl rfl rfl rfl hlen rfl rfl rfl ((m_isWord (k := 18) (ov_hl hlen) (ov_at rfl (ov_lt hlen (by decide))) hk (by decide)).up (by omega)) rfl ?_
            refine bcF_eq rfl (b01_t iw) ?_
            refine rt_ald rfl l0 ?_
            refine ow_iv0 (l2 := ((180, mcl (Int32.ofNat 0) (Int32.ofNat 0) n lim a1 pl1 (km kd1) nm1 sg1 (Int32.ofNat 0) qm1 wd1 td (posn vs nn o wi tp)) :: (181, mtl ts) :: [(182, ia nw), (187, lng nz), (202, ia nl)])) rfl rfl rfl rfl hlen rfl rfl rfl ((m1 _ (ov_hl hlen) (ov_at rfl (ov_lt hlen (by decide))) (ov_at rfl (ov_lt hlen (by decide)))).up (by omega)) rfl ?_
            refine rt_ald rfl l0 ?_
            refine ow_iv1 (l2 := ((180, mcl (Int32.ofNat 0) (Int32.ofNat 0) n lim a2 pl2 (km kd2) nm2 sg2 (Int32.ofNat 0) qm2 wd2 td2 (posn vs nn2 o2 wi tp2)) :: (181, mtl ts) :: [(182, ia nw), (187, lng nz), (202, ia nl2)])) rfl rfl rfl rfl hlen rfl rfl rfl ((h.2 H hlen).up (by omega)) rfl ?_
            refine bcF_ne rfl (by decide) ?_
            refine rt_ald rfl l0 ?_
            refine rt_ico rfl ki_2 ?_
            refine rt_ild rfl l1 ?_
            refine rt_ald rfl l0 ?_
            refine ow_gf rfl rfl rfl hlen rfl ?_
            refine rt_ico rfl ki_0 ?_
            refine ow_iv1 (l2 := ((180, mcl (Int32.ofNat 0) (Int32.ofNat 0) n lim a2 pl2 (km kd2) nm2 sg2 (Int32.ofNat 0) qm2 wd2 td2 (posn vs (nn2 + 1) o2 wi tp2)) :: (181, mtl ts) :: [(182, ia nw), (187, lng nz), (202, ia ((((nl2.set (4 * nn2) (Int32.ofNat 2)).set (4 * nn2 + 1) (Int32.ofNat aa)).set (4 * nn2 + 2) (Int32.ofNat tp2)).set (4 * nn2 + 3) (Int32.ofNat 0)))])) rfl rfl rfl rfl hlen rfl rfl rfl ((m_says (ov_hl hlen) (ov_at rfl (ov_lt hlen (by decide))) (ov_at rfl (ov_lt hlen (by decide))) ln2 (by omega)).up (by omega)) rfl ?_
            refine rt_ist rfl (by decide +kernel) ?_
            refine RT_step (pc2 := 14) rfl (fun _ _ => rfl) ?_
            exact g2 H _ hlen (gs_o rfl l0 rfl) gs_n
    · have iw : isW (km kd) wd 18 = false := by rw [iw]; exact decide_eq_false c
      refine Or.inr ⟨k, tk, td, tcl n lim a kd pl w le nu tk (Int32.ofNat 0) fp, mcl (Int32.ofNat 0) (Int32.ofNat 0) n lim a pl (km kd) nm sg (Int32.ofNat 0) qm wd td (posn vs nn o wi aa), o, s, nn, aa, ws, sgl, nbl, nl, tf_td t, by omega, ho, by omega, haa, sx, ln, fun H L hlen l0 l1 l2 l3 l4 l5 => ?_, fun H L hlen l0 l1 => ?_⟩
      · refine rt_il2 rfl l5 ?_
        refine rt_bip rfl k8_20 ?_
        refine biF_ge rfl (n_nle (by omega) (by decide)) ?_
        refine rt_il2 rfl l4 ?_
        refine bcF_eq rfl (by decide) ?_
        refine rt_ald rfl l1 ?_
        refine ow_gf rfl rfl rfl hlen rfl ?_
        refine RT_step (pc2 := 31) rfl (fun _ _ => rfl) ?_
        refine rt_acN rfl (by omega) (by omega) ?_
        refine RT_el c ?_
        refine rt_il2 rfl l4 ?_
        exact ow_irt rfl rfl rfl
      · refine rt_ald rfl l0 ?_
        refine rt_bip rfl k8_18 ?_
        refine ow_iv1 (l2 := ((180, mcl (Int32.ofNat 0) (Int32.ofNat 0) n lim a pl (km kd) nm sg (Int32.ofNat 0) qm wd td (posn vs nn o wi tp)) :: (181, mtl ts) :: [(182, ia nw), (187, lng nz), (202, ia nl)])) rfl rfl rfl rfl hlen rfl rfl rfl ((m_isWord (k := 18) (ov_hl hlen) (ov_at rfl (ov_lt hlen (by decide))) hk (by decide)).up (by omega)) rfl ?_
        refine bcT_eq rfl (b01_f iw) ?_
        refine rt_ald rfl l0 ?_
        refine rt_ild rfl l1 ?_
        refine ow_pf (l2 := ((180, mcl (Int32.ofNat 0) (Int32.ofNat 0) n lim a pl (km kd) nm sg (Int32.ofNat 0) qm wd td (posn vs nn o wi aa)) :: (181, mtl ts) :: [(182, ia nw), (187, lng nz), (202, ia nl)])) rfl rfl rfl rfl rfl hlen rfl rfl ?_
        refine rt_ico rfl ki_1 ?_
        exact ow_irt rfl rfl rfl
theorem ra3_115 {B : Nat → Nat} {bs ts : List Int32} {vs : Nat → Value} {n lim : Nat} {P : Nat} {Dn : Nat} {lw : Int32} {cl : Int32} {id : Int32} {gl : Nat} {bo : Nat} {pn : List Int64} {ri : List Int32} {lf : List Int32} {wa : List Int32} {fo : List Int32} {dn : List Int64} {ha : List Int32} {pa : List Int32} {bl : List Int32} {nw : List Int32} {nz : List Int64} (hB : BY bs B) (hM : MY ts B) (hb : ∀ i, B i < 256) (hn : n ≤ 940) (hl : lim ≤ 940) {wi KX KY : Nat} (hS : SO3_115 bs ts vs n lim P Dn lw cl id gl bo pn ri lf wa fo dn ha pa bl nw nz KX 145 [.ref 115, .ref 1, .ref 3, .int (Int32.ofNat (wi + 1))] KY 266 wi) : SO3_115 bs ts vs n lim P Dn lw cl id gl bo pn ri lf wa fo dn ha pa bl nw nz (KX + 4) 141 [.ref 115, .ref 1, .ref 3, .int (Int32.ofNat (wi + 1))] (KY + 4) 245 wi := by
  intro k a kd pl w le nu tk td fp nm sg qm wd o s nn tp ws sgl nbl nl t ho hnn htp sx ln
  rcases hS _ a kd pl w le nu tk td fp nm sg qm wd o s nn tp ws sgl nbl nl t ho hnn htp sx ln with ⟨T, M, o2, s2, nn2, tp2, ws2, sl2, nb2, nl2, f, sx2, h⟩ | ⟨k2, tk2, td2, T2, M2, o2, s2, nn2, tp2, ws2, sl2, nb2, nl2, c2, o1, o2b, on, tp2b, sx2, ln2, h⟩
  · refine Or.inl ⟨T, M, o2, s2, nn2, tp2, ws2, sl2, nb2, nl2, f, sx2, fun H hlen => ?_, fun H hlen => ?_⟩
    · refine FR_st2 (l2 := ((1, T) :: (2, bcl bs) :: [(3, dcl3 P Dn lw cl id gl bo), (4, lng pn), (5, ia ri), (6, ia lf), (7, ia wa), (8, ia fo), (9, lng dn), (10, ia ha), (11, ia pa), (12, ia bl), (115, .inr (7, [.int (Int32.ofNat o2), .int (Int32.ofNat s2), .ref 116, .ref 117, .ref 118, .ref 119])), (116, wrd ws2), (117, ia sl2), (118, ia nb2)])) rfl rfl rfl ?_
      refine RT_step (pc2 := 1) rfl (fun _ _ => rfl) ?_
      refine RT_step (pc2 := 2) rfl (fun _ _ => rfl) ?_
      refine RT_step (pc2 := 3) rfl (fun _ _ => rfl) ?_
      refine RT_step (pc2 := 4) rfl (fun _ _ => rfl) ?_
      refine ow_iv1 (l2 := ((1, T) :: (2, bcl bs) :: [(3, dcl3 P Dn lw cl id gl bo), (4, lng pn), (5, ia ri), (6, ia lf), (7, ia wa), (8, ia fo), (9, lng dn), (10, ia ha), (11, ia pa), (12, ia bl), (115, .inr (7, [.int (Int32.ofNat o2), .int (Int32.ofNat s2), .ref 116, .ref 117, .ref 118, .ref 119])), (116, wrd ws2), (117, ia sl2), (118, ia nb2)])) rfl rfl rfl rfl hlen rfl rfl rfl ((h.1 H hlen).up (by omega)) rfl ?_
      refine RT_step (pc2 := 9) rfl (fun _ _ => rfl) ?_
      refine rt_ico rfl ki_0 ?_
      refine RT_step (pc2 := 12) rfl (fun _ _ => rfl) ?_
      refine RT_step (pc2 := 14) rfl (fun _ _ => rfl) ?_
      refine rt_bip rfl k8_20 ?_
      refine biF_ge rfl (n_nle (by decide) (by decide)) ?_
      refine RT_step (pc2 := 21) rfl (fun _ _ => rfl) ?_
      refine bcT_eq rfl rfl ?_
      refine RT_step (pc2 := 64) rfl (fun _ _ => rfl) ?_
      exact ow_irt rfl rfl rfl
    · refine FR_st2 (l2 := ((180, M) :: (181, mtl ts) :: [(182, ia nw), (187, lng nz), (202, ia nl2)])) rfl rfl rfl ?_
      refine RT_step (pc2 := 1) rfl (fun _ _ => rfl) ?_
      refine ow_iv1 (l2 := ((180, M) :: (181, mtl ts) :: [(182, ia nw), (187, lng nz), (202, ia nl2)])) rfl rfl rfl rfl hlen rfl rfl rfl ((h.2 H hlen).up (by omega)) rfl ?_
      refine bcT_ne rfl rfl ?_
      refine rt_ico rfl ki_0 ?_
      exact ow_irt rfl rfl rfl
  · obtain ⟨a2, kd2, pl2, w2, le2, nu2, fp2, nm2, sg2, qm2, wd2, rfl, rfl, t2⟩ := c2
    rcases raL3_115 hB hM hb hn hl hS 20 0 rfl k2 a2 kd2 pl2 w2 le2 nu2 tk2 td2 fp2 nm2 sg2 qm2 wd2 o2 s2 nn2 tp2 tp2 ws2 sl2 nb2 nl2 t2 (by omega) o2b (by omega) tp2b tp2b sx2 ln2 with ⟨T, M, o4, s4, nn4, tp4, ws4, sg4, nb4, nl4, f, sx4, g1, g2⟩ | ⟨k4, tk4, td4, T4, M4, o4, s4, nn4, tp4, ws4, sg4, nb4, nl4, c4, q1, q2, q3, q4, sx4, ln4, g1, g2⟩
    · refine Or.inl ⟨T, M, o4, s4, nn4, tp4, ws4, sg4, nb4, nl4, f, sx4, fun H hlen => ?_, fun H hlen => ?_⟩
      · refine FR_st2 (l2 := ((1, T) :: (2, bcl bs) :: [(3, dcl3 P Dn lw cl id gl bo), (4, lng pn), (5, ia ri), (6, ia lf), (7, ia wa), (8, ia fo), (9, lng dn), (10, ia ha), (11, ia pa), (12, ia bl), (115, .inr (7, [.int (Int32.ofNat o4), .int (Int32.ofNat s4), .ref 116, .ref 117, .ref 118, .ref 119])), (116, wrd ws4), (117, ia sg4), (118, ia nb4)])) rfl rfl rfl ?_
        refine RT_step (pc2 := 1) rfl (fun _ _ => rfl) ?_
        refine RT_step (pc2 := 2) rfl (fun _ _ => rfl) ?_
        refine RT_step (pc2 := 3) rfl (fun _ _ => rfl) ?_
        refine RT_step (pc2 := 4) rfl (fun _ _ => rfl) ?_
        refine ow_iv1 (l2 := ((1, tcl n lim a2 kd2 pl2 w2 le2 nu2 tk2 (Int32.ofNat 0) fp2) :: (2, bcl bs) :: [(3, dcl3 P Dn lw cl id gl bo), (4, lng pn), (5, ia ri), (6, ia lf), (7, ia wa), (8, ia fo), (9, lng dn), (10, ia ha), (11, ia pa), (12, ia bl), (115, .inr (7, [.int (Int32.ofNat o2), .int (Int32.ofNat s2), .ref 116, .ref 117, .ref 118, .ref 119])), (116, wrd ws2), (117, ia sl2), (118, ia nb2)])) rfl rfl rfl rfl hlen rfl rfl rfl ((h.1 H hlen).up (by omega)) rfl ?_
        refine RT_step (pc2 := 9) rfl (fun _ _ => rfl) ?_
        refine rt_ico rfl ki_0 ?_
        refine RT_step (pc2 := 12) rfl (fun _ _ => rfl) ?_
        exact g1 H _ hlen rfl rfl rfl rfl rfl rfl
      · refine FR_st2 (l2 := ((180, M) :: (181, mtl ts) :: [(182, ia nw), (187, lng nz), (202, ia nl4)])) rfl rfl rfl ?_
        refine RT_step (pc2 := 1) rfl (fun _ _ => rfl) ?_
        refine ow_iv1 (l2 := ((180, mcl (Int32.ofNat 0) (Int32.ofNat 0) n lim a2 pl2 (km kd2) nm2 sg2 (Int32.ofNat 0) qm2 wd2 td2 (posn vs nn2 o2 wi tp2)) :: (181, mtl ts) :: [(182, ia nw), (187, lng nz), (202, ia nl2)])) rfl rfl rfl rfl hlen rfl rfl rfl ((h.2 H hlen).up (by omega)) rfl ?_
        refine bcF_ne rfl (by decide) ?_
        refine RT_step (pc2 := 10) rfl (fun _ _ => rfl) ?_
        refine ow_gf rfl rfl rfl hlen rfl ?_
        refine RT_step (pc2 := 14) rfl (fun _ _ => rfl) ?_
        exact g2 H _ hlen rfl rfl
    · refine Or.inr ⟨k4, tk4, td4, T4, M4, o4, s4, nn4, tp4, ws4, sg4, nb4, nl4, c4, by omega, q2, by omega, q4, sx4, ln4, fun H hlen => ?_, fun H hlen => ?_⟩
      · refine FR_st2 (l2 := ((1, T4) :: (2, bcl bs) :: [(3, dcl3 P Dn lw cl id gl bo), (4, lng pn), (5, ia ri), (6, ia lf), (7, ia wa), (8, ia fo), (9, lng dn), (10, ia ha), (11, ia pa), (12, ia bl), (115, .inr (7, [.int (Int32.ofNat o4), .int (Int32.ofNat s4), .ref 116, .ref 117, .ref 118, .ref 119])), (116, wrd ws4), (117, ia sg4), (118, ia nb4)])) rfl rfl rfl ?_
        refine RT_step (pc2 := 1) rfl (fun _ _ => rfl) ?_
        refine RT_step (pc2 := 2) rfl (fun _ _ => rfl) ?_
        refine RT_step (pc2 := 3) rfl (fun _ _ => rfl) ?_
        refine RT_step (pc2 := 4) rfl (fun _ _ => rfl) ?_
        refine ow_iv1 (l2 := ((1, tcl n lim a2 kd2 pl2 w2 le2 nu2 tk2 (Int32.ofNat 0) fp2) :: (2, bcl bs) :: [(3, dcl3 P Dn lw cl id gl bo), (4, lng pn), (5, ia ri), (6, ia lf), (7, ia wa), (8, ia fo), (9, lng dn), (10, ia ha), (11, ia pa), (12, ia bl), (115, .inr (7, [.int (Int32.ofNat o2), .int (Int32.ofNat s2), .ref 116, .ref 117, .ref 118, .ref 119])), (116, wrd ws2), (117, ia sl2), (118, ia nb2)])) rfl rfl rfl rfl hlen rfl rfl rfl ((h.1 H hlen).up (by omega)) rfl ?_
        refine RT_step (pc2 := 9) rfl (fun _ _ => rfl) ?_
        refine rt_ico rfl ki_0 ?_
        refine RT_step (pc2 := 12) rfl (fun _ _ => rfl) ?_
        exact g1 H _ hlen rfl rfl rfl rfl rfl rfl
      · refine FR_st2 (l2 := ((180, M4) :: (181, mtl ts) :: [(182, ia nw), (187, lng nz), (202, ia nl4)])) rfl rfl rfl ?_
        refine RT_step (pc2 := 1) rfl (fun _ _ => rfl) ?_
        refine ow_iv1 (l2 := ((180, mcl (Int32.ofNat 0) (Int32.ofNat 0) n lim a2 pl2 (km kd2) nm2 sg2 (Int32.ofNat 0) qm2 wd2 td2 (posn vs nn2 o2 wi tp2)) :: (181, mtl ts) :: [(182, ia nw), (187, lng nz), (202, ia nl2)])) rfl rfl rfl rfl hlen rfl rfl rfl ((h.2 H hlen).up (by omega)) rfl ?_
        refine bcF_ne rfl (by decide) ?_
        refine RT_step (pc2 := 10) rfl (fun _ _ => rfl) ?_
        refine ow_gf rfl rfl rfl hlen rfl ?_
        refine RT_step (pc2 := 14) rfl (fun _ _ => rfl) ?_
        exact g2 H _ hlen rfl rfl
theorem rcL3_115 {B : Nat → Nat} {bs ts : List Int32} {vs : Nat → Value} {n lim : Nat} {P : Nat} {Dn : Nat} {lw : Int32} {cl : Int32} {id : Int32} {gl : Nat} {bo : Nat} {pn : List Int64} {ri : List Int32} {lf : List Int32} {wa : List Int32} {fo : List Int32} {dn : List Int64} {ha : List Int32} {pa : List Int32} {bl : List Int32} {nw : List Int32} {nz : List Int64} (hB : BY bs B) (hM : MY ts B) (hb : ∀ i, B i < 256) (hn : n ≤ 940) (hl : lim ≤ 940) {wi KX KY : Nat} (hS : SO3_115 bs ts vs n lim P Dn lw cl id gl bo pn ri lf wa fo dn ha pa bl nw nz KX 141 [.ref 115, .ref 1, .ref 3, .int (Int32.ofNat (wi + 1))] KY 245 wi) : ∀ (r ii : Nat), ii + r = 20 → ∀ (k a kd pl w : Nat) (le : Int64) (nu tk td fp nm sg qm : Int32) (wd : Int64) (o s nn tp aa : Nat) (ws : List (Option Nat)) (sgl nbl nl : List Int32), TF k n a kd w le nu nm sg wd → ii + 1 ≤ o → o ≤ 20 → nn + 1 ≤ 2 * o → tp < 60 → aa < 60 → SX s ws sgl nbl → nl.length = 240 → (∃ (T M : AE) (o2 s2 nn2 tp2 : Nat) (ws2 : List (Option Nat)) (sl2 nb2 nl2 : List Int32), FC n lim (posn vs nn2 o2 wi tp2) T M ∧ SX s2 ws2 sl2 nb2 ∧ (∀ (H : List AE) (L : List (Nat × Value)), Nat.ble 204 H.length = true → ev_g L 0 = some (.ref 115) → ev_g L 1 = some (.ref 1) → ev_g L 2 = some (.ref 3) → ev_g L 3 = some (.int (Int32.ofNat (wi + 1))) → ev_g L 4 = some (.int (Int32.ofNat 1)) → ev_g L 5 = some (.int (Int32.ofNat ii)) → RT MM (KX + 3) 142 12 L [] (ov H ((1, tcl n lim a kd pl w le nu tk (Int32.ofNat 0) fp) :: (2, bcl bs) :: [(3, dcl3 P Dn lw cl id gl bo), (4, lng pn), (5, ia ri), (6, ia lf), (7, ia wa), (8, ia fo), (9, lng dn), (10, ia ha), (11, ia pa), (12, ia bl), (115, .inr (7, [.int (Int32.ofNat o), .int (Int32.ofNat s), .ref 116, .ref 117, .ref 118, .ref 119])), (116, wrd ws), (117, ia sgl), (118, ia nbl)])) (some (.int (Int32.ofNat 0)), ov H ((1, T) :: (2, bcl bs) :: [(3, dcl3 P Dn lw cl id gl bo), (4, lng pn), (5, ia ri), (6, ia lf), (7, ia wa), (8, ia fo), (9, lng dn), (10, ia ha), (11, ia pa), (12, ia bl), (115, .inr (7, [.int (Int32.ofNat o2), .int (Int32.ofNat s2), .ref 116, .ref 117, .ref 118, .ref 119])), (116, wrd ws2), (117, ia sl2), (118, ia nb2)]))) ∧ (∀ (H : List AE) (L : List (Nat × Value)), Nat.ble 204 H.length = true → ev_g L 0 = some (.ref 180) → ev_g L 1 = some (.int (Int32.ofNat aa)) → RT MM (KY + 3) 263 14 L [] (ov H ((180, mcl (Int32.ofNat 0) (Int32.ofNat 0) n lim a pl (km kd) nm sg (Int32.ofNat 0) qm wd td (posn vs nn o wi tp)) :: (181, mtl ts) :: [(182, ia nw), (187, lng nz), (202, ia nl)])) (some (.int (Int32.ofNat 0)), ov H ((180, M) :: (181, mtl ts) :: [(182, ia nw), (187, lng nz), (202, ia nl2)])))) ∨ (∃ (k2 : Nat) (tk2 td2 : Int32) (T M : AE) (o2 s2 nn2 tp2 : Nat) (ws2 : List (Option Nat)) (sl2 nb2 nl2 : List Int32), TC n lim (posn vs nn2 o2 wi tp2) k2 tk2 td2 T M ∧ o ≤ o2 ∧ o2 ≤ 20 ∧ nn2 + 2 * o ≤ nn + 2 * o2 ∧ tp2 < 60 ∧ SX s2 ws2 sl2 nb2 ∧ nl2.length = 240 ∧ (∀ (H : List AE) (L : List (Nat × Value)), Nat.ble 204 H.length = true → ev_g L 0 = some (.ref 115) → ev_g L 1 = some (.ref 1) → ev_g L 2 = some (.ref 3) → ev_g L 3 = some (.int (Int32.ofNat (wi + 1))) → ev_g L 4 = some (.int (Int32.ofNat 1)) → ev_g L 5 = some (.int (Int32.ofNat ii)) → RT MM (KX + 3) 142 12 L [] (ov H ((1, tcl n lim a kd pl w le nu tk (Int32.ofNat 0) fp) :: (2, bcl bs) :: [(3, dcl3 P Dn lw cl id gl bo), (4, lng pn), (5, ia ri), (6, ia lf), (7, ia wa), (8, ia fo), (9, lng dn), (10, ia ha), (11, ia pa), (12, ia bl), (115, .inr (7, [.int (Int32.ofNat o), .int (Int32.ofNat s), .ref 116, .ref 117, .ref 118, .ref 119])), (116, wrd ws), (117, ia sgl), (118, ia nbl)])) (some (.int (Int32.ofNat 1)), ov H ((1, T) :: (2, bcl bs) :: [(3, dcl3 P Dn lw cl id gl bo), (4, lng pn), (5, ia ri), (6, ia lf), (7, ia wa), (8, ia fo), (9, lng dn), (10, ia ha), (11, ia pa), (12, ia bl), (115, .inr (7, [.int (Int32.ofNat o2), .int (Int32.ofNat s2), .ref 116, .ref 117, .ref 118, .ref 119])), (116, wrd ws2), (117, ia sl2), (118, ia nb2)]))) ∧ (∀ (H : List AE) (L : List (Nat × Value)), Nat.ble 204 H.length = true → ev_g L 0 = some (.ref 180) → ev_g L 1 = some (.int (Int32.ofNat aa)) → RT MM (KY + 3) 263 14 L [] (ov H ((180, mcl (Int32.ofNat 0) (Int32.ofNat 0) n lim a pl (km kd) nm sg (Int32.ofNat 0) qm wd td (posn vs nn o wi tp)) :: (181, mtl ts) :: [(182, ia nw), (187, lng nz), (202, ia nl)])) (some (.int (Int32.ofNat 1)), ov H ((180, M) :: (181, mtl ts) :: [(182, ia nw), (187, lng nz), (202, ia nl2)])))) := by
  intro r
  induction r with
  | zero => intro ii hi k a kd pl w le nu tk td fp nm sg qm wd o s nn tp aa ws sgl nbl nl t h1 h2; omega
  | succ r ih =>
    intro ii hi k a kd pl w le nu tk td fp nm sg qm wd o s nn tp aa ws sgl nbl nl t h1 ho hnn htp haa sx ln
    have hk := (km_is kd t.2.2.2.1).2.2.2.2.2
    have hw := t.2.2.2.2.1
    have iw := w_is t (show 17 < 30 by decide)
    by_cases c : w = 20
    · have iw : isW (km kd) wd 17 = true := by rw [iw]; exact decide_eq_true c
      have hk1 := w_k1 t (by omega)
      obtain ⟨T1, M1, c1, x1, m1⟩ := s_adv hB hM hb hn hl (po := (posn vs nn o wi tp)) (pl := pl) (tk := tk) (td := td) (fp := fp) (plM := qm) t (by omega) (by omega)
      obtain ⟨a1, kd1, pl1, w1, le1, nu1, fp1, nm1, sg1, qm1, wd1, rfl, rfl, t1⟩ := c1
      rcases hS _ a1 kd1 pl1 w1 le1 nu1 tk td fp1 nm1 sg1 qm1 wd1 o s nn tp ws sgl nbl nl t1 ho (by omega) htp sx ln with ⟨T, M, o2, s2, nn2, tp2, ws2, sl2, nb2, nl2, f, sx2, h⟩ | ⟨k2, tk2, td2, T2, M2, o2, s2, nn2, tp2, ws2, sl2, nb2, nl2, c2, o1, o2b, on, tp2b, sx2, ln2, h⟩
      · obtain ⟨s3, ws3, sl3, nb3, sx3, hadd⟩ := sx_add115 sx2 (w := 20) (by decide) (Int32.ofNat 0) (Int32.ofNat 0)
        have f0 := f
        obtain ⟨a9, kd9, pl9, w9, le9, nu9, tk9, kk9, am9, fm9, kM9, nm9, sg9, fa9, qm9, wd9, td9, rfl, rfl, f9⟩ := f
        refine Or.inl ⟨tcl n lim a9 kd9 pl9 w9 le9 nu9 tk9 (Int32.ofNat kk9) (Int32.ofNat pl9), mcl (Int32.ofNat 0) (Int32.ofNat 0) n lim am9 fm9 kM9 nm9 sg9 fa9 qm9 wd9 td9 (posn vs nn2 o2 wi tp2), o2, s3, nn2, tp2, ws3, sl3, nb3, nl2, f0, sx3, fun H L hlen l0 l1 l2 l3 l4 l5 => ?_, fun H L hlen l0 l1 => ?_⟩
        · refine rt_il2 rfl l5 ?_
          refine rt_bip rfl k8_20 ?_
          refine biF_ge rfl (n_nle (by omega) (by decide)) ?_
          refine rt_il2 rfl l4 ?_
          refine bcF_eq rfl (by decide) ?_
          refine rt_ald rfl l1 ?_
          refine ow_gf rfl rfl rfl hlen rfl ?_
          refine RT_step (pc2 := 31) rfl (fun _ _ => rfl) ?_
          refine rt_acN rfl (by omega) (by omega) ?_
          refine RT_if c ?_
          refine rt_ald rfl l1 ?_
          refine ow_iv0 (l2 := ((1, tcl n lim a1 kd1 pl1 w1 le1 nu1 tk (Int32.ofNat 0) fp1) :: (2, bcl bs) :: [(3, dcl3 P Dn lw cl id gl bo), (4, lng pn), (5, ia ri), (6, ia lf), (7, ia wa), (8, ia fo), (9, lng dn), (10, ia ha), (11, ia pa), (12, ia bl), (115, .inr (7, [.int (Int32.ofNat o), .int (Int32.ofNat s), .ref 116, .ref 117, .ref 118, .ref 119])), (116, wrd ws), (117, ia sgl), (118, ia nbl)])) rfl rfl rfl rfl hlen rfl rfl rfl ((x1 _ (ov_hl hlen) (ov_at rfl (ov_lt hlen (by decide))) (ov_at rfl (ov_lt hlen (by decide)))).up (by omega)) rfl ?_
          refine rt_ald rfl l0 ?_
          refine rt_ald rfl l1 ?_
          refine rt_ald rfl l2 ?_
          refine rt_ild rfl l3 ?_
          refine ow_iv1 (l2 := ((1, tcl n lim a9 kd9 pl9 w9 le9 nu9 tk9 (Int32.ofNat kk9) (Int32.ofNat pl9)) :: (2, bcl bs) :: [(3, dcl3 P Dn lw cl id gl bo), (4, lng pn), (5, ia ri), (6, ia lf), (7, ia wa), (8, ia fo), (9, lng dn), (10, ia ha), (11, ia pa), (12, ia bl), (115, .inr (7, [.int (Int32.ofNat o2), .int (Int32.ofNat s2), .ref 116, .ref 117, .ref 118, .ref 119])), (116, wrd ws2), (117, ia sl2), (118, ia nb2)])) rfl rfl rfl rfl hlen rfl rfl rfl ((h.1 H hlen).up (by omega)) rfl ?_
          refine rt_is2 rfl (by decide +kernel) ?_
          refine rt_ald rfl (gs_o rfl l0 rfl) ?_
          refine RT_step (pc2 := 51) rfl (fun _ _ => rfl) ?_
          refine rt_ico rfl ki_0 ?_
          refine rt_ico rfl ki_0 ?_
          refine ow_iv0 (l2 := ((1, tcl n lim a9 kd9 pl9 w9 le9 nu9 tk9 (Int32.ofNat kk9) (Int32.ofNat pl9)) :: (2, bcl bs) :: [(3, dcl3 P Dn lw cl id gl bo), (4, lng pn), (5, ia ri), (6, ia lf), (7, ia wa), (8, ia fo), (9, lng dn), (10, ia ha), (11, ia pa), (12, ia bl), (115, .inr (7, [.int (Int32.ofNat o2), .int (Int32.ofNat s3), .ref 116, .ref 117, .ref 118, .ref 119])), (116, wrd ws3), (117, ia sl3), (118, ia nb3)])) rfl rfl rfl rfl hlen rfl rfl rfl ((hadd _ _ (ov_hl hlen) (ov_at rfl (ov_lt hlen (by decide))) (ov_at rfl (ov_lt hlen (by decide))) (ov_at rfl (ov_lt hlen (by decide))) (ov_at rfl (ov_lt hlen (by decide)))).up (by omega)) rfl ?_
          refine rt_inc rfl (gs_o rfl l5 rfl) (by decide +kernel) ?_
          rw [in_1]
          refine RT_step (pc2 := 12) rfl (fun _ _ => rfl) ?_
          by_cases c9 : ii + 1 < 20
          · refine rt_il2 rfl gs_n ?_
            refine rt_bip rfl k8_20 ?_
            refine biF_ge rfl (n_nle (by omega) (by omega)) ?_
            refine rt_il2 rfl (gs_o rfl gs_n rfl) ?_
            refine bcT_eq rfl rfl ?_
            refine rt_il2 rfl (gs_o rfl gs_n rfl) ?_
            exact ow_irt rfl rfl rfl
          · refine rt_il2 rfl gs_n ?_
            refine rt_bip rfl k8_20 ?_
            refine biT_ge rfl (n_le (by omega) (by omega)) ?_
            refine rt_il2 rfl (gs_o rfl gs_n rfl) ?_
            exact ow_irt rfl rfl rfl
        · refine rt_ald rfl l0 ?_
          refine rt_bip rfl k8_17 ?_
          refine ow_iv1 (l2 := ((180, mcl (Int32.ofNat 0) (Int32.ofNat 0) n lim a pl (km kd) nm sg (Int32.ofNat 0) qm wd td (posn vs nn o wi tp)) :: (181, mtl ts) :: [(182, ia nw), (187, lng nz), (202, ia nl)])) rfl rfl rfl rfl hlen rfl rfl rfl ((m_isWord (k := 17) (ov_hl hlen) (ov_at rfl (ov_lt hlen (by decide))) hk (by decide)).up (by omega)) rfl ?_
          refine bcF_eq rfl (b01_t iw) ?_
          refine rt_ald rfl l0 ?_
          refine ow_iv0 (l2 := ((180, mcl (Int32.ofNat 0) (Int32.ofNat 0) n lim a1 pl1 (km kd1) nm1 sg1 (Int32.ofNat 0) qm1 wd1 td (posn vs nn o wi tp)) :: (181, mtl ts) :: [(182, ia nw), (187, lng nz), (202, ia nl)])) rfl rfl rfl rfl hlen rfl rfl rfl ((m1 _ (ov_hl hlen) (ov_at rfl (ov_lt hlen (by decide))) (ov_at rfl (ov_lt hlen (by decide)))).up (by omega)) rfl ?_
          refine rt_ald rfl l0 ?_
          refine ow_iv1 (l2 := ((180, mcl (Int32.ofNat 0) (Int32.ofNat 0) n lim am9 fm9 kM9 nm9 sg9 fa9 qm9 wd9 td9 (posn vs nn2 o2 wi tp2)) :: (181, mtl ts) :: [(182, ia nw), (187, lng nz), (202, ia nl2)])) rfl rfl rfl rfl hlen rfl rfl rfl ((h.2 H hlen).up (by omega)) rfl ?_
          refine bcT_ne rfl rfl ?_
          refine rt_ico rfl ki_0 ?_
          exact ow_irt rfl rfl rfl
      · obtain ⟨a2, kd2, pl2, w2, le2, nu2, fp2, nm2, sg2, qm2, wd2, rfl, rfl, t2⟩ := c2
        obtain ⟨s3, ws3, sl3, nb3, sx3, hadd⟩ := sx_add115 sx2 (w := 20) (by decide) (Int32.ofNat 0) (Int32.ofNat 0)
        have ln3 : ((((nl2.set (4 * nn2) (Int32.ofNat 3)).set (4 * nn2 + 1) (Int32.ofNat aa)).set (4 * nn2 + 2) (Int32.ofNat tp2)).set (4 * nn2 + 3) (Int32.ofNat 0)).length = 240 := by simp only [List.length_set]; exact ln2
        rcases ih (ii + 1) (by omega) k2 a2 kd2 pl2 w2 le2 nu2 tk2 td2 fp2 nm2 sg2 qm2 wd2 o2 s3 (nn2 + 1) tp2 nn2 ws3 sl3 nb3 ((((nl2.set (4 * nn2) (Int32.ofNat 3)).set (4 * nn2 + 1) (Int32.ofNat aa)).set (4 * nn2 + 2) (Int32.ofNat tp2)).set (4 * nn2 + 3) (Int32.ofNat 0)) t2 (by omega) o2b (by omega) tp2b (by omega) sx3 ln3 with ⟨T, M, o4, s4, nn4, tp4, ws4, sg4, nb4, nl4, f, sx4, g1, g2⟩ | ⟨k4, tk4, td4, T4, M4, o4, s4, nn4, tp4, ws4, sg4, nb4, nl4, c4, q1, q2, q3, q4, sx4, ln4, g1, g2⟩
        · refine Or.inl ⟨T, M, o4, s4, nn4, tp4, ws4, sg4, nb4, nl4, f, sx4, fun H L hlen l0 l1 l2 l3 l4 l5 => ?_, fun H L hlen l0 l1 => ?_⟩
          · refine rt_il2 rfl l5 ?_
            refine rt_bip rfl k8_20 ?_
            refine biF_ge rfl (n_nle (by omega) (by decide)) ?_
            refine rt_il2 rfl l4 ?_
            refine bcF_eq rfl (by decide) ?_
            refine rt_ald rfl l1 ?_
            refine ow_gf rfl rfl rfl hlen rfl ?_
            refine RT_step (pc2 := 31) rfl (fun _ _ => rfl) ?_
            refine rt_acN rfl (by omega) (by omega) ?_
            refine RT_if c ?_
            refine rt_ald rfl l1 ?_
            refine ow_iv0 (l2 := ((1, tcl n lim a1 kd1 pl1 w1 le1 nu1 tk (Int32.ofNat 0) fp1) :: (2, bcl bs) :: [(3, dcl3 P Dn lw cl id gl bo), (4, lng pn), (5, ia ri), (6, ia lf), (7, ia wa), (8, ia fo), (9, lng dn), (10, ia ha), (11, ia pa), (12, ia bl), (115, .inr (7, [.int (Int32.ofNat o), .int (Int32.ofNat s), .ref 116, .ref 117, .ref 118, .ref 119])), (116, wrd ws), (117, ia sgl), (118, ia nbl)])) rfl rfl rfl rfl hlen rfl rfl rfl ((x1 _ (ov_hl hlen) (ov_at rfl (ov_lt hlen (by decide))) (ov_at rfl (ov_lt hlen (by decide)))).up (by omega)) rfl ?_
            refine rt_ald rfl l0 ?_
            refine rt_ald rfl l1 ?_
            refine rt_ald rfl l2 ?_
            refine rt_ild rfl l3 ?_
            refine ow_iv1 (l2 := ((1, tcl n lim a2 kd2 pl2 w2 le2 nu2 tk2 (Int32.ofNat 0) fp2) :: (2, bcl bs) :: [(3, dcl3 P Dn lw cl id gl bo), (4, lng pn), (5, ia ri), (6, ia lf), (7, ia wa), (8, ia fo), (9, lng dn), (10, ia ha), (11, ia pa), (12, ia bl), (115, .inr (7, [.int (Int32.ofNat o2), .int (Int32.ofNat s2), .ref 116, .ref 117, .ref 118, .ref 119])), (116, wrd ws2), (117, ia sl2), (118, ia nb2)])) rfl rfl rfl rfl hlen rfl rfl rfl ((h.1 H hlen).up (by omega)) rfl ?_
            refine rt_is2 rfl (by decide +kernel) ?_
            refine rt_ald rfl (gs_o rfl l0 rfl) ?_
            refine RT_step (pc2 := 51) rfl (fun _ _ => rfl) ?_
            refine rt_ico rfl ki_0 ?_
            refine rt_ico rfl ki_0 ?_
            refine ow_iv0 (l2 := ((1, tcl n lim a2 kd2 pl2 w2 le2 nu2 tk2 (Int32.ofNat 0) fp2) :: (2, bcl bs) :: [(3, dcl3 P Dn lw cl id gl bo), (4, lng pn), (5, ia ri), (6, ia lf), (7, ia wa), (8, ia fo), (9, lng dn), (10, ia ha), (11, ia pa), (12, ia bl), (115, .inr (7, [.int (Int32.ofNat o2), .int (Int32.ofNat s3), .ref 116, .ref 117, .ref 118, .ref 119])), (116, wrd ws3), (117, ia sl3), (118, ia nb3)])) rfl rfl rfl rfl hlen rfl rfl rfl ((hadd _ _ (ov_hl hlen) (ov_at rfl (ov_lt hlen (by decide))) (ov_at rfl (ov_lt hlen (by decide))) (ov_at rfl (ov_lt hlen (by decide))) (ov_at rfl (ov_lt hlen (by decide)))).up (by omega)) rfl ?_
            refine rt_inc rfl (gs_o rfl l5 rfl) (by decide +kernel) ?_
            rw [in_1]
            refine RT_step (pc2 := 12) rfl (fun _ _ => rfl) ?_
            exact g1 H _ hlen (gs_o rfl (gs_o rfl l0 rfl) rfl) (gs_o rfl (gs_o rfl l1 rfl) rfl) (gs_o rfl (gs_o rfl l2 rfl) rfl) (gs_o rfl (gs_o rfl l3 rfl) rfl) (gs_o rfl gs_n rfl) gs_n
          · refine rt_ald rfl l0 ?_
            refine rt_bip rfl k8_17 ?_
            refine ow_iv1 (l2 := ((180, mcl (Int32.ofNat 0) (Int32.ofNat 0) n lim a pl (km kd) nm sg (Int32.ofNat 0) qm wd td (posn vs nn o wi tp)) :: (181, mtl ts) :: [(182, ia nw), (187, lng nz), (202, ia nl)])) rfl rfl rfl rfl hlen rfl rfl rfl ((m_isWord (k := 17) (ov_hl hlen) (ov_at rfl (ov_lt hlen (by decide))) hk (by decide)).up (by omega)) rfl ?_
            refine bcF_eq rfl (b01_t iw) ?_
            refine rt_ald rfl l0 ?_
            refine ow_iv0 (l2 := ((180, mcl (Int32.ofNat 0) (Int32.ofNat 0) n lim a1 pl1 (km kd1) nm1 sg1 (Int32.ofNat 0) qm1 wd1 td (posn vs nn o wi tp)) :: (181, mtl ts) :: [(182, ia nw), (187, lng nz), (202, ia nl)])) rfl rfl rfl rfl hlen rfl rfl rfl ((m1 _ (ov_hl hlen) (ov_at rfl (ov_lt hlen (by decide))) (ov_at rfl (ov_lt hlen (by decide)))).up (by omega)) rfl ?_
            refine rt_ald rfl l0 ?_
            refine ow_iv1 (l2 := ((180, mcl (Int32.ofNat 0) (Int32.ofNat 0) n lim a2 pl2 (km kd2) nm2 sg2 (Int32.ofNat 0) qm2 wd2 td2 (posn vs nn2 o2 wi tp2)) :: (181, mtl ts) :: [(182, ia nw), (187, lng nz), (202, ia nl2)])) rfl rfl rfl rfl hlen rfl rfl rfl ((h.2 H hlen).up (by omega)) rfl ?_
            refine bcF_ne rfl (by decide) ?_
            refine rt_ald rfl l0 ?_
            refine rt_ico rfl ki_3 ?_
            refine rt_ild rfl l1 ?_
            refine rt_ald rfl l0 ?_
            refine ow_gf rfl rfl rfl hlen rfl ?_
            refine rt_ico rfl ki_0 ?_
            refine ow_iv1 (l2 := ((180, mcl (Int32.ofNat 0) (Int32.ofNat 0) n lim a2 pl2 (km kd2) nm2 sg2 (Int32.ofNat 0) qm2 wd2 td2 (posn vs (nn2 + 1) o2 wi tp2)) :: (181, mtl ts) :: [(182, ia nw), (187, lng nz), (202, ia ((((nl2.set (4 * nn2) (Int32.ofNat 3)).set (4 * nn2 + 1) (Int32.ofNat aa)).set (4 * nn2 + 2) (Int32.ofNat tp2)).set (4 * nn2 + 3) (Int32.ofNat 0)))])) rfl rfl rfl rfl hlen rfl rfl rfl ((m_says (ov_hl hlen) (ov_at rfl (ov_lt hlen (by decide))) (ov_at rfl (ov_lt hlen (by decide))) ln2 (by omega)).up (by omega)) rfl ?_
            refine rt_ist rfl (by decide +kernel) ?_
            refine RT_step (pc2 := 14) rfl (fun _ _ => rfl) ?_
            exact g2 H _ hlen (gs_o rfl l0 rfl) gs_n
        · refine Or.inr ⟨k4, tk4, td4, T4, M4, o4, s4, nn4, tp4, ws4, sg4, nb4, nl4, c4, by omega, q2, by omega, q4, sx4, ln4, fun H L hlen l0 l1 l2 l3 l4 l5 => ?_, fun H L hlen l0 l1 => ?_⟩
          · refine rt_il2 rfl l5 ?_
            refine rt_bip rfl k8_20 ?_
            refine biF_ge rfl (n_nle (by omega) (by decide)) ?_
            refine rt_il2 rfl l4 ?_
            refine bcF_eq rfl (by decide) ?_
            refine rt_ald rfl l1 ?_
            refine ow_gf rfl rfl rfl hlen rfl ?_
            refine RT_step (pc2 := 31) rfl (fun _ _ => rfl) ?_
            refine rt_acN rfl (by omega) (by omega) ?_
            refine RT_if c ?_
            refine rt_ald rfl l1 ?_
            refine ow_iv0 (l2 := ((1, tcl n lim a1 kd1 pl1 w1 le1 nu1 tk (Int32.ofNat 0) fp1) :: (2, bcl bs) :: [(3, dcl3 P Dn lw cl id gl bo), (4, lng pn), (5, ia ri), (6, ia lf), (7, ia wa), (8, ia fo), (9, lng dn), (10, ia ha), (11, ia pa), (12, ia bl), (115, .inr (7, [.int (Int32.ofNat o), .int (Int32.ofNat s), .ref 116, .ref 117, .ref 118, .ref 119])), (116, wrd ws), (117, ia sgl), (118, ia nbl)])) rfl rfl rfl rfl hlen rfl rfl rfl ((x1 _ (ov_hl hlen) (ov_at rfl (ov_lt hlen (by decide))) (ov_at rfl (ov_lt hlen (by decide)))).up (by omega)) rfl ?_
            refine rt_ald rfl l0 ?_
            refine rt_ald rfl l1 ?_
            refine rt_ald rfl l2 ?_
            refine rt_ild rfl l3 ?_
            refine ow_iv1 (l2 := ((1, tcl n lim a2 kd2 pl2 w2 le2 nu2 tk2 (Int32.ofNat 0) fp2) :: (2, bcl bs) :: [(3, dcl3 P Dn lw cl id gl bo), (4, lng pn), (5, ia ri), (6, ia lf), (7, ia wa), (8, ia fo), (9, lng dn), (10, ia ha), (11, ia pa), (12, ia bl), (115, .inr (7, [.int (Int32.ofNat o2), .int (Int32.ofNat s2), .ref 116, .ref 117, .ref 118, .ref 119])), (116, wrd ws2), (117, ia sl2), (118, ia nb2)])) rfl rfl rfl rfl hlen rfl rfl rfl ((h.1 H hlen).up (by omega)) rfl ?_
            refine rt_is2 rfl (by decide +kernel) ?_
            refine rt_ald rfl (gs_o rfl l0 rfl) ?_
            refine RT_step (pc2 := 51) rfl (fun _ _ => rfl) ?_
            refine rt_ico rfl ki_0 ?_
            refine rt_ico rfl ki_0 ?_
            refine ow_iv0 (l2 := ((1, tcl n lim a2 kd2 pl2 w2 le2 nu2 tk2 (Int32.ofNat 0) fp2) :: (2, bcl bs) :: [(3, dcl3 P Dn lw cl id gl bo), (4, lng pn), (5, ia ri), (6, ia lf), (7, ia wa), (8, ia fo), (9, lng dn), (10, ia ha), (11, ia pa), (12, ia bl), (115, .inr (7, [.int (Int32.ofNat o2), .int (Int32.ofNat s3), .ref 116, .ref 117, .ref 118, .ref 119])), (116, wrd ws3), (117, ia sl3), (118, ia nb3)])) rfl rfl rfl rfl hlen rfl rfl rfl ((hadd _ _ (ov_hl hlen) (ov_at rfl (ov_lt hlen (by decide))) (ov_at rfl (ov_lt hlen (by decide))) (ov_at rfl (ov_lt hlen (by decide))) (ov_at rfl (ov_lt hlen (by decide)))).up (by omega)) rfl ?_
            refine rt_inc rfl (gs_o rfl l5 rfl) (by decide +kernel) ?_
            rw [in_1]
            refine RT_step (pc2 := 12) rfl (fun _ _ => rfl) ?_
            exact g1 H _ hlen (gs_o rfl (gs_o rfl l0 rfl) rfl) (gs_o rfl (gs_o rfl l1 rfl) rfl) (gs_o rfl (gs_o rfl l2 rfl) rfl) (gs_o rfl (gs_o rfl l3 rfl) rfl) (gs_o rfl gs_n rfl) gs_n
          · refine rt_ald rfl l0 ?_
            refine rt_bip rfl k8_17 ?_
            refine ow_iv1 (l2 := ((180, mcl (Int32.ofNat 0) (Int32.ofNat 0) n lim a pl (km kd) nm sg (Int32.ofNat 0) qm wd td (posn vs nn o wi tp)) :: (181, mtl ts) :: [(182, ia nw), (187, lng nz), (202, ia nl)])) rfl rfl rfl rfl hlen rfl rfl rfl ((m_isWord (k := 17) (ov_hl hlen) (ov_at rfl (ov_lt hlen (by decide))) hk (by decide)).up (by omega)) rfl ?_
            refine bcF_eq rfl (b01_t iw) ?_
            refine rt_ald rfl l0 ?_
            refine ow_iv0 (l2 := ((180, mcl (Int32.ofNat 0) (Int32.ofNat 0) n lim a1 pl1 (km kd1) nm1 sg1 (Int32.ofNat 0) qm1 wd1 td (posn vs nn o wi tp)) :: (181, mtl ts) :: [(182, ia nw), (187, lng nz), (202, ia nl)])) rfl rfl rfl rfl hlen rfl rfl rfl ((m1 _ (ov_hl hlen) (ov_at rfl (ov_lt hlen (by decide))) (ov_at rfl (ov_lt hlen (by decide)))).up (by omega)) rfl ?_
            refine rt_ald rfl l0 ?_
            refine ow_iv1 (l2 := ((180, mcl (Int32.ofNat 0) (Int32.ofNat 0) n lim a2 pl2 (km kd2) nm2 sg2 (Int32.ofNat 0) qm2 wd2 td2 (posn vs nn2 o2 wi tp2)) :: (181, mtl ts) :: [(182, ia nw), (187, lng nz), (202, ia nl2)])) rfl rfl rfl rfl hlen rfl rfl rfl ((h.2 H hlen).up (by omega)) rfl ?_
            refine bcF_ne rfl (by decide) ?_
            refine rt_ald rfl l0 ?_
            refine rt_ico rfl ki_3 ?_
            refine rt_ild rfl l1 ?_
            refine rt_ald rfl l0 ?_
            refine ow_gf rfl rfl rfl hlen rfl ?_
            refine rt_ico rfl ki_0 ?_
            refine ow_iv1 (l2 := ((180, mcl (Int32.ofNat 0) (Int32.ofNat 0) n lim a2 pl2 (km kd2) nm2 sg2 (Int32.ofNat 0) qm2 wd2 td2 (posn vs (nn2 + 1) o2 wi tp2)) :: (181, mtl ts) :: [(182, ia nw), (187, lng nz), (202, ia ((((nl2.set (4 * nn2) (Int32.ofNat 3)).set (4 * nn2 + 1) (Int32.ofNat aa)).set (4 * nn2 + 2) (Int32.ofNat tp2)).set (4 * nn2 + 3) (Int32.ofNat 0)))])) rfl rfl rfl rfl hlen rfl rfl rfl ((m_says (ov_hl hlen) (ov_at rfl (ov_lt hlen (by decide))) (ov_at rfl (ov_lt hlen (by decide))) ln2 (by omega)).up (by omega)) rfl ?_
            refine rt_ist rfl (by decide +kernel) ?_
            refine RT_step (pc2 := 14) rfl (fun _ _ => rfl) ?_
            exact g2 H _ hlen (gs_o rfl l0 rfl) gs_n
    · have iw : isW (km kd) wd 17 = false := by rw [iw]; exact decide_eq_false c
      refine Or.inr ⟨k, tk, td, tcl n lim a kd pl w le nu tk (Int32.ofNat 0) fp, mcl (Int32.ofNat 0) (Int32.ofNat 0) n lim a pl (km kd) nm sg (Int32.ofNat 0) qm wd td (posn vs nn o wi aa), o, s, nn, aa, ws, sgl, nbl, nl, tf_td t, by omega, ho, by omega, haa, sx, ln, fun H L hlen l0 l1 l2 l3 l4 l5 => ?_, fun H L hlen l0 l1 => ?_⟩
      · refine rt_il2 rfl l5 ?_
        refine rt_bip rfl k8_20 ?_
        refine biF_ge rfl (n_nle (by omega) (by decide)) ?_
        refine rt_il2 rfl l4 ?_
        refine bcF_eq rfl (by decide) ?_
        refine rt_ald rfl l1 ?_
        refine ow_gf rfl rfl rfl hlen rfl ?_
        refine RT_step (pc2 := 31) rfl (fun _ _ => rfl) ?_
        refine rt_acN rfl (by omega) (by omega) ?_
        refine RT_el c ?_
        refine rt_il2 rfl l4 ?_
        exact ow_irt rfl rfl rfl
      · refine rt_ald rfl l0 ?_
        refine rt_bip rfl k8_17 ?_
        refine ow_iv1 (l2 := ((180, mcl (Int32.ofNat 0) (Int32.ofNat 0) n lim a pl (km kd) nm sg (Int32.ofNat 0) qm wd td (posn vs nn o wi tp)) :: (181, mtl ts) :: [(182, ia nw), (187, lng nz), (202, ia nl)])) rfl rfl rfl rfl hlen rfl rfl rfl ((m_isWord (k := 17) (ov_hl hlen) (ov_at rfl (ov_lt hlen (by decide))) hk (by decide)).up (by omega)) rfl ?_
        refine bcT_eq rfl (b01_f iw) ?_
        refine rt_ald rfl l0 ?_
        refine rt_ild rfl l1 ?_
        refine ow_pf (l2 := ((180, mcl (Int32.ofNat 0) (Int32.ofNat 0) n lim a pl (km kd) nm sg (Int32.ofNat 0) qm wd td (posn vs nn o wi aa)) :: (181, mtl ts) :: [(182, ia nw), (187, lng nz), (202, ia nl)])) rfl rfl rfl rfl rfl hlen rfl rfl ?_
        refine rt_ico rfl ki_1 ?_
        exact ow_irt rfl rfl rfl
theorem rc3_115 {B : Nat → Nat} {bs ts : List Int32} {vs : Nat → Value} {n lim : Nat} {P : Nat} {Dn : Nat} {lw : Int32} {cl : Int32} {id : Int32} {gl : Nat} {bo : Nat} {pn : List Int64} {ri : List Int32} {lf : List Int32} {wa : List Int32} {fo : List Int32} {dn : List Int64} {ha : List Int32} {pa : List Int32} {bl : List Int32} {nw : List Int32} {nz : List Int64} (hB : BY bs B) (hM : MY ts B) (hb : ∀ i, B i < 256) (hn : n ≤ 940) (hl : lim ≤ 940) {wi KX KY : Nat} (hS : SO3_115 bs ts vs n lim P Dn lw cl id gl bo pn ri lf wa fo dn ha pa bl nw nz KX 141 [.ref 115, .ref 1, .ref 3, .int (Int32.ofNat (wi + 1))] KY 245 wi) : SO3_115 bs ts vs n lim P Dn lw cl id gl bo pn ri lf wa fo dn ha pa bl nw nz (KX + 4) 142 [.ref 115, .ref 1, .ref 3, .int (Int32.ofNat (wi + 1))] (KY + 4) 263 wi := by
  intro k a kd pl w le nu tk td fp nm sg qm wd o s nn tp ws sgl nbl nl t ho hnn htp sx ln
  rcases hS _ a kd pl w le nu tk td fp nm sg qm wd o s nn tp ws sgl nbl nl t ho hnn htp sx ln with ⟨T, M, o2, s2, nn2, tp2, ws2, sl2, nb2, nl2, f, sx2, h⟩ | ⟨k2, tk2, td2, T2, M2, o2, s2, nn2, tp2, ws2, sl2, nb2, nl2, c2, o1, o2b, on, tp2b, sx2, ln2, h⟩
  · refine Or.inl ⟨T, M, o2, s2, nn2, tp2, ws2, sl2, nb2, nl2, f, sx2, fun H hlen => ?_, fun H hlen => ?_⟩
    · refine FR_st2 (l2 := ((1, T) :: (2, bcl bs) :: [(3, dcl3 P Dn lw cl id gl bo), (4, lng pn), (5, ia ri), (6, ia lf), (7, ia wa), (8, ia fo), (9, lng dn), (10, ia ha), (11, ia pa), (12, ia bl), (115, .inr (7, [.int (Int32.ofNat o2), .int (Int32.ofNat s2), .ref 116, .ref 117, .ref 118, .ref 119])), (116, wrd ws2), (117, ia sl2), (118, ia nb2)])) rfl rfl rfl ?_
      refine RT_step (pc2 := 1) rfl (fun _ _ => rfl) ?_
      refine RT_step (pc2 := 2) rfl (fun _ _ => rfl) ?_
      refine RT_step (pc2 := 3) rfl (fun _ _ => rfl) ?_
      refine RT_step (pc2 := 4) rfl (fun _ _ => rfl) ?_
      refine ow_iv1 (l2 := ((1, T) :: (2, bcl bs) :: [(3, dcl3 P Dn lw cl id gl bo), (4, lng pn), (5, ia ri), (6, ia lf), (7, ia wa), (8, ia fo), (9, lng dn), (10, ia ha), (11, ia pa), (12, ia bl), (115, .inr (7, [.int (Int32.ofNat o2), .int (Int32.ofNat s2), .ref 116, .ref 117, .ref 118, .ref 119])), (116, wrd ws2), (117, ia sl2), (118, ia nb2)])) rfl rfl rfl rfl hlen rfl rfl rfl ((h.1 H hlen).up (by omega)) rfl ?_
      refine RT_step (pc2 := 9) rfl (fun _ _ => rfl) ?_
      refine rt_ico rfl ki_0 ?_
      refine RT_step (pc2 := 12) rfl (fun _ _ => rfl) ?_
      refine RT_step (pc2 := 14) rfl (fun _ _ => rfl) ?_
      refine rt_bip rfl k8_20 ?_
      refine biF_ge rfl (n_nle (by decide) (by decide)) ?_
      refine RT_step (pc2 := 21) rfl (fun _ _ => rfl) ?_
      refine bcT_eq rfl rfl ?_
      refine RT_step (pc2 := 64) rfl (fun _ _ => rfl) ?_
      exact ow_irt rfl rfl rfl
    · refine FR_st2 (l2 := ((180, M) :: (181, mtl ts) :: [(182, ia nw), (187, lng nz), (202, ia nl2)])) rfl rfl rfl ?_
      refine RT_step (pc2 := 1) rfl (fun _ _ => rfl) ?_
      refine ow_iv1 (l2 := ((180, M) :: (181, mtl ts) :: [(182, ia nw), (187, lng nz), (202, ia nl2)])) rfl rfl rfl rfl hlen rfl rfl rfl ((h.2 H hlen).up (by omega)) rfl ?_
      refine bcT_ne rfl rfl ?_
      refine rt_ico rfl ki_0 ?_
      exact ow_irt rfl rfl rfl
  · obtain ⟨a2, kd2, pl2, w2, le2, nu2, fp2, nm2, sg2, qm2, wd2, rfl, rfl, t2⟩ := c2
    rcases rcL3_115 hB hM hb hn hl hS 20 0 rfl k2 a2 kd2 pl2 w2 le2 nu2 tk2 td2 fp2 nm2 sg2 qm2 wd2 o2 s2 nn2 tp2 tp2 ws2 sl2 nb2 nl2 t2 (by omega) o2b (by omega) tp2b tp2b sx2 ln2 with ⟨T, M, o4, s4, nn4, tp4, ws4, sg4, nb4, nl4, f, sx4, g1, g2⟩ | ⟨k4, tk4, td4, T4, M4, o4, s4, nn4, tp4, ws4, sg4, nb4, nl4, c4, q1, q2, q3, q4, sx4, ln4, g1, g2⟩
    · refine Or.inl ⟨T, M, o4, s4, nn4, tp4, ws4, sg4, nb4, nl4, f, sx4, fun H hlen => ?_, fun H hlen => ?_⟩
      · refine FR_st2 (l2 := ((1, T) :: (2, bcl bs) :: [(3, dcl3 P Dn lw cl id gl bo), (4, lng pn), (5, ia ri), (6, ia lf), (7, ia wa), (8, ia fo), (9, lng dn), (10, ia ha), (11, ia pa), (12, ia bl), (115, .inr (7, [.int (Int32.ofNat o4), .int (Int32.ofNat s4), .ref 116, .ref 117, .ref 118, .ref 119])), (116, wrd ws4), (117, ia sg4), (118, ia nb4)])) rfl rfl rfl ?_
        refine RT_step (pc2 := 1) rfl (fun _ _ => rfl) ?_
        refine RT_step (pc2 := 2) rfl (fun _ _ => rfl) ?_
        refine RT_step (pc2 := 3) rfl (fun _ _ => rfl) ?_
        refine RT_step (pc2 := 4) rfl (fun _ _ => rfl) ?_
        refine ow_iv1 (l2 := ((1, tcl n lim a2 kd2 pl2 w2 le2 nu2 tk2 (Int32.ofNat 0) fp2) :: (2, bcl bs) :: [(3, dcl3 P Dn lw cl id gl bo), (4, lng pn), (5, ia ri), (6, ia lf), (7, ia wa), (8, ia fo), (9, lng dn), (10, ia ha), (11, ia pa), (12, ia bl), (115, .inr (7, [.int (Int32.ofNat o2), .int (Int32.ofNat s2), .ref 116, .ref 117, .ref 118, .ref 119])), (116, wrd ws2), (117, ia sl2), (118, ia nb2)])) rfl rfl rfl rfl hlen rfl rfl rfl ((h.1 H hlen).up (by omega)) rfl ?_
        refine RT_step (pc2 := 9) rfl (fun _ _ => rfl) ?_
        refine rt_ico rfl ki_0 ?_
        refine RT_step (pc2 := 12) rfl (fun _ _ => rfl) ?_
        exact g1 H _ hlen rfl rfl rfl rfl rfl rfl
      · refine FR_st2 (l2 := ((180, M) :: (181, mtl ts) :: [(182, ia nw), (187, lng nz), (202, ia nl4)])) rfl rfl rfl ?_
        refine RT_step (pc2 := 1) rfl (fun _ _ => rfl) ?_
        refine ow_iv1 (l2 := ((180, mcl (Int32.ofNat 0) (Int32.ofNat 0) n lim a2 pl2 (km kd2) nm2 sg2 (Int32.ofNat 0) qm2 wd2 td2 (posn vs nn2 o2 wi tp2)) :: (181, mtl ts) :: [(182, ia nw), (187, lng nz), (202, ia nl2)])) rfl rfl rfl rfl hlen rfl rfl rfl ((h.2 H hlen).up (by omega)) rfl ?_
        refine bcF_ne rfl (by decide) ?_
        refine RT_step (pc2 := 10) rfl (fun _ _ => rfl) ?_
        refine ow_gf rfl rfl rfl hlen rfl ?_
        refine RT_step (pc2 := 14) rfl (fun _ _ => rfl) ?_
        exact g2 H _ hlen rfl rfl
    · refine Or.inr ⟨k4, tk4, td4, T4, M4, o4, s4, nn4, tp4, ws4, sg4, nb4, nl4, c4, by omega, q2, by omega, q4, sx4, ln4, fun H hlen => ?_, fun H hlen => ?_⟩
      · refine FR_st2 (l2 := ((1, T4) :: (2, bcl bs) :: [(3, dcl3 P Dn lw cl id gl bo), (4, lng pn), (5, ia ri), (6, ia lf), (7, ia wa), (8, ia fo), (9, lng dn), (10, ia ha), (11, ia pa), (12, ia bl), (115, .inr (7, [.int (Int32.ofNat o4), .int (Int32.ofNat s4), .ref 116, .ref 117, .ref 118, .ref 119])), (116, wrd ws4), (117, ia sg4), (118, ia nb4)])) rfl rfl rfl ?_
        refine RT_step (pc2 := 1) rfl (fun _ _ => rfl) ?_
        refine RT_step (pc2 := 2) rfl (fun _ _ => rfl) ?_
        refine RT_step (pc2 := 3) rfl (fun _ _ => rfl) ?_
        refine RT_step (pc2 := 4) rfl (fun _ _ => rfl) ?_
        refine ow_iv1 (l2 := ((1, tcl n lim a2 kd2 pl2 w2 le2 nu2 tk2 (Int32.ofNat 0) fp2) :: (2, bcl bs) :: [(3, dcl3 P Dn lw cl id gl bo), (4, lng pn), (5, ia ri), (6, ia lf), (7, ia wa), (8, ia fo), (9, lng dn), (10, ia ha), (11, ia pa), (12, ia bl), (115, .inr (7, [.int (Int32.ofNat o2), .int (Int32.ofNat s2), .ref 116, .ref 117, .ref 118, .ref 119])), (116, wrd ws2), (117, ia sl2), (118, ia nb2)])) rfl rfl rfl rfl hlen rfl rfl rfl ((h.1 H hlen).up (by omega)) rfl ?_
        refine RT_step (pc2 := 9) rfl (fun _ _ => rfl) ?_
        refine rt_ico rfl ki_0 ?_
        refine RT_step (pc2 := 12) rfl (fun _ _ => rfl) ?_
        exact g1 H _ hlen rfl rfl rfl rfl rfl rfl
      · refine FR_st2 (l2 := ((180, M4) :: (181, mtl ts) :: [(182, ia nw), (187, lng nz), (202, ia nl4)])) rfl rfl rfl ?_
        refine RT_step (pc2 := 1) rfl (fun _ _ => rfl) ?_
        refine ow_iv1 (l2 := ((180, mcl (Int32.ofNat 0) (Int32.ofNat 0) n lim a2 pl2 (km kd2) nm2 sg2 (Int32.ofNat 0) qm2 wd2 td2 (posn vs nn2 o2 wi tp2)) :: (181, mtl ts) :: [(182, ia nw), (187, lng nz), (202, ia nl2)])) rfl rfl rfl rfl hlen rfl rfl rfl ((h.2 H hlen).up (by omega)) rfl ?_
        refine bcF_ne rfl (by decide) ?_
        refine RT_step (pc2 := 10) rfl (fun _ _ => rfl) ?_
        refine ow_gf rfl rfl rfl hlen rfl ?_
        refine RT_step (pc2 := 14) rfl (fun _ _ => rfl) ?_
        exact g2 H _ hlen rfl rfl
theorem so_up3_115 {bs ts : List Int32} {vs : Nat → Value} {n lim : Nat} {P : Nat} {Dn : Nat} {lw : Int32} {cl : Int32} {id : Int32} {gl : Nat} {bo : Nat} {pn : List Int64} {ri : List Int32} {lf : List Int32} {wa : List Int32} {fo : List Int32} {dn : List Int64} {ha : List Int32} {pa : List Int32} {bl : List Int32} {nw : List Int32} {nz : List Int64} {kx x ky m wi kx2 ky2 : Nat} {Ax : List Value} (h : SO3_115 bs ts vs n lim P Dn lw cl id gl bo pn ri lf wa fo dn ha pa bl nw nz kx x Ax ky m wi) (h1 : kx ≤ kx2) (h2 : ky ≤ ky2) : SO3_115 bs ts vs n lim P Dn lw cl id gl bo pn ri lf wa fo dn ha pa bl nw nz kx2 x Ax ky2 m wi := by
  intro k a kd pl w le nu tk td fp nm sg qm wd o s nn tp ws sgl nbl nl t ho hnn htp sx ln
  rcases h k a kd pl w le nu tk td fp nm sg qm wd o s nn tp ws sgl nbl nl t ho hnn htp sx ln with ⟨T, M, o2, s2, nn2, tp2, ws2, sl2, nb2, nl2, f, sx2, g⟩ | ⟨k2, tk2, td2, T2, M2, o2, s2, nn2, tp2, ws2, sl2, nb2, nl2, c2, o1, o2b, on, tp2b, sx2, ln2, g⟩
  · exact Or.inl ⟨T, M, o2, s2, nn2, tp2, ws2, sl2, nb2, nl2, f, sx2, fun H hlen => (g.1 H hlen).up h1, fun H hlen => (g.2 H hlen).up h2⟩
  · exact Or.inr ⟨k2, tk2, td2, T2, M2, o2, s2, nn2, tp2, ws2, sl2, nb2, nl2, c2, o1, o2b, on, tp2b, sx2, ln2, fun H hlen => (g.1 H hlen).up h1, fun H hlen => (g.2 H hlen).up h2⟩
theorem so_all3_115 {B : Nat → Nat} {bs ts : List Int32} {vs : Nat → Value} {n lim : Nat} {P : Nat} {Dn : Nat} {lw : Int32} {cl : Int32} {id : Int32} {gl : Nat} {bo : Nat} {pn : List Int64} {ri : List Int32} {lf : List Int32} {wa : List Int32} {fo : List Int32} {dn : List Int64} {ha : List Int32} {pa : List Int32} {bl : List Int32} {nw : List Int32} {nz : List Int64} (hB : BY bs B) (hM : MY ts B) (hb : ∀ i, B i < 256) (hn : n ≤ 940) (hl : lim ≤ 940) (hP : P ≤ 7) (lp : pn.length = 7) (lz : nz.length = 15) (hv : nw[0]? = some (Int32.ofNat P)) (hN : ∀ i, i < P → ∃ ss, nok ss ∧ pn[i]? = some (p5 ss) ∧ nz[0 + i]? = some (p27 ss)) : ∀ (r wi : Nat), wi + r = 8 → SO3_115 bs ts vs n lim P Dn lw cl id gl bo pn ri lf wa fo dn ha pa bl nw nz (16 * r + 8) 145 [.ref 115, .ref 1, .ref 3, .int (Int32.ofNat (wi + 1))] (18 * r + 10) 266 wi := by
  intro r
  induction r with
  | zero => intro wi hi; exact so1_3_115 (KX := 0) (KY := 0) hB hM hb hn hl hP lp lz hv hN (by omega) (fun h => by omega) (fun h => by omega)
  | succ r ih =>
    intro wi hi
    have h1 := ih (wi + 1) (by omega)
    have h2 := rc3_115 hB hM hb hn hl (ra3_115 hB hM hb hn hl h1)
    refine so_up3_115 (so1_3_115 (KX := 16 * r + 16) (KY := 18 * r + 18) hB hM hb hn hl hP lp lz hv hN (by omega) (fun _ => so_up3_115 h2 (by omega) (by omega)) (fun _ => so_up3_115 h1 (by omega) (by omega))) (by omega) (by omega)
theorem raL13_110 {B : Nat → Nat} {bs ts : List Int32} {vs : Nat → Value} {n lim : Nat} {P : Nat} {Dn : Nat} {lw : Int32} {cl : Int32} {id : Int32} {gl : Nat} {bo : Nat} {pn : List Int64} {ri : List Int32} {lf : List Int32} {wa : List Int32} {fo : List Int32} {dn : List Int64} {ha : List Int32} {pa : List Int32} {bl : List Int32} {nw : List Int32} {nz : List Int64} (hB : BY bs B) (hM : MY ts B) (hb : ∀ i, B i < 256) (hn : n ≤ 940) (hl : lim ≤ 940) {wi KX KY : Nat} (hS : SO13_110 bs ts vs n lim P Dn lw cl id gl bo pn ri lf wa fo dn ha pa bl nw nz KX 145 [.ref 110, .ref 1, .ref 13, .int (Int32.ofNat (wi + 1))] KY 266 wi) : ∀ (r ii : Nat), ii + r = 20 → ∀ (k a kd pl w : Nat) (le : Int64) (nu tk td fp nm sg qm : Int32) (wd : Int64) (o s nn tp aa : Nat) (ws : List (Option Nat)) (sgl nbl nl : List Int32), TF k n a kd w le nu nm sg wd → ii + 1 ≤ o → o ≤ 20 → nn + 1 ≤ 2 * o → tp < 60 → aa < 60 → SX s ws sgl nbl → nl.length = 240 → (∃ (T M : AE) (o2 s2 nn2 tp2 : Nat) (ws2 : List (Option Nat)) (sl2 nb2 nl2 : List Int32), FC n lim (posn vs nn2 o2 wi tp2) T M ∧ SX s2 ws2 sl2 nb2 ∧ (∀ (H : List AE) (L : List (Nat × Value)), Nat.ble 204 H.length = true → ev_g L 0 = some (.ref 110) → ev_g L 1 = some (.ref 1) → ev_g L 2 = some (.ref 13) → ev_g L 3 = some (.int (Int32.ofNat (wi + 1))) → ev_g L 4 = some (.int (Int32.ofNat 1)) → ev_g L 5 = some (.int (Int32.ofNat ii)) → RT MM (KX + 3) 141 12 L [] (ov H ((1, tcl n lim a kd pl w le nu tk (Int32.ofNat 0) fp) :: (2, bcl bs) :: [(13, dcl13 P Dn lw cl id gl bo), (14, lng pn), (15, ia ri), (16, ia lf), (17, ia wa), (18, ia fo), (19, lng dn), (20, ia ha), (21, ia pa), (22, ia bl), (110, .inr (7, [.int (Int32.ofNat o), .int (Int32.ofNat s), .ref 111, .ref 112, .ref 113, .ref 114])), (111, wrd ws), (112, ia sgl), (113, ia nbl)])) (some (.int (Int32.ofNat 0)), ov H ((1, T) :: (2, bcl bs) :: [(13, dcl13 P Dn lw cl id gl bo), (14, lng pn), (15, ia ri), (16, ia lf), (17, ia wa), (18, ia fo), (19, lng dn), (20, ia ha), (21, ia pa), (22, ia bl), (110, .inr (7, [.int (Int32.ofNat o2), .int (Int32.ofNat s2), .ref 111, .ref 112, .ref 113, .ref 114])), (111, wrd ws2), (112, ia sl2), (113, ia nb2)]))) ∧ (∀ (H : List AE) (L : List (Nat × Value)), Nat.ble 204 H.length = true → ev_g L 0 = some (.ref 180) → ev_g L 1 = some (.int (Int32.ofNat aa)) → RT MM (KY + 3) 245 14 L [] (ov H ((180, mcl (Int32.ofNat 0) (Int32.ofNat 0) n lim a pl (km kd) nm sg (Int32.ofNat 0) qm wd td (posn vs nn o wi tp)) :: (181, mtl ts) :: [(182, ia nw), (187, lng nz), (202, ia nl)])) (some (.int (Int32.ofNat 0)), ov H ((180, M) :: (181, mtl ts) :: [(182, ia nw), (187, lng nz), (202, ia nl2)])))) ∨ (∃ (k2 : Nat) (tk2 td2 : Int32) (T M : AE) (o2 s2 nn2 tp2 : Nat) (ws2 : List (Option Nat)) (sl2 nb2 nl2 : List Int32), TC n lim (posn vs nn2 o2 wi tp2) k2 tk2 td2 T M ∧ o ≤ o2 ∧ o2 ≤ 20 ∧ nn2 + 2 * o ≤ nn + 2 * o2 ∧ tp2 < 60 ∧ SX s2 ws2 sl2 nb2 ∧ nl2.length = 240 ∧ (∀ (H : List AE) (L : List (Nat × Value)), Nat.ble 204 H.length = true → ev_g L 0 = some (.ref 110) → ev_g L 1 = some (.ref 1) → ev_g L 2 = some (.ref 13) → ev_g L 3 = some (.int (Int32.ofNat (wi + 1))) → ev_g L 4 = some (.int (Int32.ofNat 1)) → ev_g L 5 = some (.int (Int32.ofNat ii)) → RT MM (KX + 3) 141 12 L [] (ov H ((1, tcl n lim a kd pl w le nu tk (Int32.ofNat 0) fp) :: (2, bcl bs) :: [(13, dcl13 P Dn lw cl id gl bo), (14, lng pn), (15, ia ri), (16, ia lf), (17, ia wa), (18, ia fo), (19, lng dn), (20, ia ha), (21, ia pa), (22, ia bl), (110, .inr (7, [.int (Int32.ofNat o), .int (Int32.ofNat s), .ref 111, .ref 112, .ref 113, .ref 114])), (111, wrd ws), (112, ia sgl), (113, ia nbl)])) (some (.int (Int32.ofNat 1)), ov H ((1, T) :: (2, bcl bs) :: [(13, dcl13 P Dn lw cl id gl bo), (14, lng pn), (15, ia ri), (16, ia lf), (17, ia wa), (18, ia fo), (19, lng dn), (20, ia ha), (21, ia pa), (22, ia bl), (110, .inr (7, [.int (Int32.ofNat o2), .int (Int32.ofNat s2), .ref 111, .ref 112, .ref 113, .ref 114])), (111, wrd ws2), (112, ia sl2), (113, ia nb2)]))) ∧ (∀ (H : List AE) (L : List (Nat × Value)), Nat.ble 204 H.length = true → ev_g L 0 = some (.ref 180) → ev_g L 1 = some (.int (Int32.ofNat aa)) → RT MM (KY + 3) 245 14 L [] (ov H ((180, mcl (Int32.ofNat 0) (Int32.ofNat 0) n lim a pl (km kd) nm sg (Int32.ofNat 0) qm wd td (posn vs nn o wi tp)) :: (181, mtl ts) :: [(182, ia nw), (187, lng nz), (202, ia nl)])) (some (.int (Int32.ofNat 1)), ov H ((180, M) :: (181, mtl ts) :: [(182, ia nw), (187, lng nz), (202, ia nl2)])))) := by
  intro r
  induction r with
  | zero => intro ii hi k a kd pl w le nu tk td fp nm sg qm wd o s nn tp aa ws sgl nbl nl t h1 h2; omega
  | succ r ih =>
    intro ii hi k a kd pl w le nu tk td fp nm sg qm wd o s nn tp aa ws sgl nbl nl t h1 ho hnn htp haa sx ln
    have hk := (km_is kd t.2.2.2.1).2.2.2.2.2
    have hw := t.2.2.2.2.1
    have iw := w_is t (show 18 < 30 by decide)
    by_cases c : w = 21
    · have iw : isW (km kd) wd 18 = true := by rw [iw]; exact decide_eq_true c
      have hk1 := w_k1 t (by omega)
      obtain ⟨T1, M1, c1, x1, m1⟩ := s_adv hB hM hb hn hl (po := (posn vs nn o wi tp)) (pl := pl) (tk := tk) (td := td) (fp := fp) (plM := qm) t (by omega) (by omega)
      obtain ⟨a1, kd1, pl1, w1, le1, nu1, fp1, nm1, sg1, qm1, wd1, rfl, rfl, t1⟩ := c1
      rcases hS _ a1 kd1 pl1 w1 le1 nu1 tk td fp1 nm1 sg1 qm1 wd1 o s nn tp ws sgl nbl nl t1 ho (by omega) htp sx ln with ⟨T, M, o2, s2, nn2, tp2, ws2, sl2, nb2, nl2, f, sx2, h⟩ | ⟨k2, tk2, td2, T2, M2, o2, s2, nn2, tp2, ws2, sl2, nb2, nl2, c2, o1, o2b, on, tp2b, sx2, ln2, h⟩
      · obtain ⟨s3, ws3, sl3, nb3, sx3, hadd⟩ := sx_add110 sx2 (w := 21) (by decide) (Int32.ofNat 0) (Int32.ofNat 0)
        have f0 := f
        obtain ⟨a9, kd9, pl9, w9, le9, nu9, tk9, kk9, am9, fm9, kM9, nm9, sg9, fa9, qm9, wd9, td9, rfl, rfl, f9⟩ := f
        refine Or.inl ⟨tcl n lim a9 kd9 pl9 w9 le9 nu9 tk9 (Int32.ofNat kk9) (Int32.ofNat pl9), mcl (Int32.ofNat 0) (Int32.ofNat 0) n lim am9 fm9 kM9 nm9 sg9 fa9 qm9 wd9 td9 (posn vs nn2 o2 wi tp2), o2, s3, nn2, tp2, ws3, sl3, nb3, nl2, f0, sx3, fun H L hlen l0 l1 l2 l3 l4 l5 => ?_, fun H L hlen l0 l1 => ?_⟩
        · refine rt_il2 rfl l5 ?_
          refine rt_bip rfl k8_20 ?_
          refine biF_ge rfl (n_nle (by omega) (by decide)) ?_
          refine rt_il2 rfl l4 ?_
          refine bcF_eq rfl (by decide) ?_
          refine rt_ald rfl l1 ?_
          refine ow_gf rfl rfl rfl hlen rfl ?_
          refine RT_step (pc2 := 31) rfl (fun _ _ => rfl) ?_
          refine rt_acN rfl (by omega) (by omega) ?_
          refine RT_if c ?_
          refine rt_ald rfl l1 ?_
          refine ow_iv0 (l2 := ((1, tcl n lim a1 kd1 pl1 w1 le1 nu1 tk (Int32.ofNat 0) fp1) :: (2, bcl bs) :: [(13, dcl13 P Dn lw cl id gl bo), (14, lng pn), (15, ia ri), (16, ia lf), (17, ia wa), (18, ia fo), (19, lng dn), (20, ia ha), (21, ia pa), (22, ia bl), (110, .inr (7, [.int (Int32.ofNat o), .int (Int32.ofNat s), .ref 111, .ref 112, .ref 113, .ref 114])), (111, wrd ws), (112, ia sgl), (113, ia nbl)])) rfl rfl rfl rfl hlen rfl rfl rfl ((x1 _ (ov_hl hlen) (ov_at rfl (ov_lt hlen (by decide))) (ov_at rfl (ov_lt hlen (by decide)))).up (by omega)) rfl ?_
          refine rt_ald rfl l0 ?_
          refine rt_ald rfl l1 ?_
          refine rt_ald rfl l2 ?_
          refine rt_ild rfl l3 ?_
          refine ow_iv1 (l2 := ((1, tcl n lim a9 kd9 pl9 w9 le9 nu9 tk9 (Int32.ofNat kk9) (Int32.ofNat pl9)) :: (2, bcl bs) :: [(13, dcl13 P Dn lw cl id gl bo), (14, lng pn), (15, ia ri), (16, ia lf), (17, ia wa), (18, ia fo), (19, lng dn), (20, ia ha), (21, ia pa), (22, ia bl), (110, .inr (7, [.int (Int32.ofNat o2), .int (Int32.ofNat s2), .ref 111, .ref 112, .ref 113, .ref 114])), (111, wrd ws2), (112, ia sl2), (113, ia nb2)])) rfl rfl rfl rfl hlen rfl rfl rfl ((h.1 H hlen).up (by omega)) rfl ?_
          refine rt_is2 rfl (by decide +kernel) ?_
          refine rt_ald rfl (gs_o rfl l0 rfl) ?_
          refine RT_step (pc2 := 51) rfl (fun _ _ => rfl) ?_
          refine rt_ico rfl ki_0 ?_
          refine rt_ico rfl ki_0 ?_
          refine ow_iv0 (l2 := ((1, tcl n lim a9 kd9 pl9 w9 le9 nu9 tk9 (Int32.ofNat kk9) (Int32.ofNat pl9)) :: (2, bcl bs) :: [(13, dcl13 P Dn lw cl id gl bo), (14, lng pn), (15, ia ri), (16, ia lf), (17, ia wa), (18, ia fo), (19, lng dn), (20, ia ha), (21, ia pa), (22, ia bl), (110, .inr (7, [.int (Int32.ofNat o2), .int (Int32.ofNat s3), .ref 111, .ref 112, .ref 113, .ref 114])), (111, wrd ws3), (112, ia sl3), (113, ia nb3)])) rfl rfl rfl rfl hlen rfl rfl rfl ((hadd _ _ (ov_hl hlen) (ov_at rfl (ov_lt hlen (by decide))) (ov_at rfl (ov_lt hlen (by decide))) (ov_at rfl (ov_lt hlen (by decide))) (ov_at rfl (ov_lt hlen (by decide)))).up (by omega)) rfl ?_
          refine rt_inc rfl (gs_o rfl l5 rfl) (by decide +kernel) ?_
          rw [in_1]
          refine RT_step (pc2 := 12) rfl (fun _ _ => rfl) ?_
          by_cases c9 : ii + 1 < 20
          · refine rt_il2 rfl gs_n ?_
            refine rt_bip rfl k8_20 ?_
            refine biF_ge rfl (n_nle (by omega) (by omega)) ?_
            refine rt_il2 rfl (gs_o rfl gs_n rfl) ?_
            refine bcT_eq rfl rfl ?_
            refine rt_il2 rfl (gs_o rfl gs_n rfl) ?_
            exact ow_irt rfl rfl rfl
          · refine rt_il2 rfl gs_n ?_
            refine rt_bip rfl k8_20 ?_
            refine biT_ge rfl (n_le (by omega) (by omega)) ?_
            refine rt_il2 rfl (gs_o rfl gs_n rfl) ?_
            exact ow_irt rfl rfl rfl
        · refine rt_ald rfl l0 ?_
          refine rt_bip rfl k8_18 ?_
          refine ow_iv1 (l2 := ((180, mcl (Int32.ofNat 0) (Int32.ofNat 0) n lim a pl (km kd) nm sg (Int32.ofNat 0) qm wd td (posn vs nn o wi tp)) :: (181, mtl ts) :: [(182, ia nw), (187, lng nz), (202, ia nl)])) rfl rfl rfl rfl hlen rfl rfl rfl ((m_isWord (k := 18) (ov_hl hlen) (ov_at rfl (ov_lt hlen (by decide))) hk (by decide)).up (by omega)) rfl ?_
          refine bcF_eq rfl (b01_t iw) ?_
          refine rt_ald rfl l0 ?_
          refine ow_iv0 (l2 := ((180, mcl (Int32.ofNat 0) (Int32.ofNat 0) n lim a1 pl1 (km kd1) nm1 sg1 (Int32.ofNat 0) qm1 wd1 td (posn vs nn o wi tp)) :: (181, mtl ts) :: [(182, ia nw), (187, lng nz), (202, ia nl)])) rfl rfl rfl rfl hlen rfl rfl rfl ((m1 _ (ov_hl hlen) (ov_at rfl (ov_lt hlen (by decide))) (ov_at rfl (ov_lt hlen (by decide)))).up (by omega)) rfl ?_
          refine rt_ald rfl l0 ?_
          refine ow_iv1 (l2 := ((180, mcl (Int32.ofNat 0) (Int32.ofNat 0) n lim am9 fm9 kM9 nm9 sg9 fa9 qm9 wd9 td9 (posn vs nn2 o2 wi tp2)) :: (181, mtl ts) :: [(182, ia nw), (187, lng nz), (202, ia nl2)])) rfl rfl rfl rfl hlen rfl rfl rfl ((h.2 H hlen).up (by omega)) rfl ?_
          refine bcT_ne rfl rfl ?_
          refine rt_ico rfl ki_0 ?_
          exact ow_irt rfl rfl rfl
      · obtain ⟨a2, kd2, pl2, w2, le2, nu2, fp2, nm2, sg2, qm2, wd2, rfl, rfl, t2⟩ := c2
        obtain ⟨s3, ws3, sl3, nb3, sx3, hadd⟩ := sx_add110 sx2 (w := 21) (by decide) (Int32.ofNat 0) (Int32.ofNat 0)
        have ln3 : ((((nl2.set (4 * nn2) (Int32.ofNat 2)).set (4 * nn2 + 1) (Int32.ofNat aa)).set (4 * nn2 + 2) (Int32.ofNat tp2)).set (4 * nn2 + 3) (Int32.ofNat 0)).length = 240 := by simp only [List.length_set]; exact ln2
        rcases ih (ii + 1) (by omega) k2 a2 kd2 pl2 w2 le2 nu2 tk2 td2 fp2 nm2 sg2 qm2 wd2 o2 s3 (nn2 + 1) tp2 nn2 ws3 sl3 nb3 ((((nl2.set (4 * nn2) (Int32.ofNat 2)).set (4 * nn2 + 1) (Int32.ofNat aa)).set (4 * nn2 + 2) (Int32.ofNat tp2)).set (4 * nn2 + 3) (Int32.ofNat 0)) t2 (by omega) o2b (by omega) tp2b (by omega) sx3 ln3 with ⟨T, M, o4, s4, nn4, tp4, ws4, sg4, nb4, nl4, f, sx4, g1, g2⟩ | ⟨k4, tk4, td4, T4, M4, o4, s4, nn4, tp4, ws4, sg4, nb4, nl4, c4, q1, q2, q3, q4, sx4, ln4, g1, g2⟩
        · refine Or.inl ⟨T, M, o4, s4, nn4, tp4, ws4, sg4, nb4, nl4, f, sx4, fun H L hlen l0 l1 l2 l3 l4 l5 => ?_, fun H L hlen l0 l1 => ?_⟩
          · refine rt_il2 rfl l5 ?_
            refine rt_bip rfl k8_20 ?_
            refine biF_ge rfl (n_nle (by omega) (by decide)) ?_
            refine rt_il2 rfl l4 ?_
            refine bcF_eq rfl (by decide) ?_
            refine rt_ald rfl l1 ?_
            refine ow_gf rfl rfl rfl hlen rfl ?_
            refine RT_step (pc2 := 31) rfl (fun _ _ => rfl) ?_
            refine rt_acN rfl (by omega) (by omega) ?_
            refine RT_if c ?_
            refine rt_ald rfl l1 ?_
            refine ow_iv0 (l2 := ((1, tcl n lim a1 kd1 pl1 w1 le1 nu1 tk (Int32.ofNat 0) fp1) :: (2, bcl bs) :: [(13, dcl13 P Dn lw cl id gl bo), (14, lng pn), (15, ia ri), (16, ia lf), (17, ia wa), (18, ia fo), (19, lng dn), (20, ia ha), (21, ia pa), (22, ia bl), (110, .inr (7, [.int (Int32.ofNat o), .int (Int32.ofNat s), .ref 111, .ref 112, .ref 113, .ref 114])), (111, wrd ws), (112, ia sgl), (113, ia nbl)])) rfl rfl rfl rfl hlen rfl rfl rfl ((x1 _ (ov_hl hlen) (ov_at rfl (ov_lt hlen (by decide))) (ov_at rfl (ov_lt hlen (by decide)))).up (by omega)) rfl ?_
            refine rt_ald rfl l0 ?_
            refine rt_ald rfl l1 ?_
            refine rt_ald rfl l2 ?_
            refine rt_ild rfl l3 ?_
            refine ow_iv1 (l2 := ((1, tcl n lim a2 kd2 pl2 w2 le2 nu2 tk2 (Int32.ofNat 0) fp2) :: (2, bcl bs) :: [(13, dcl13 P Dn lw cl id gl bo), (14, lng pn), (15, ia ri), (16, ia lf), (17, ia wa), (18, ia fo), (19, lng dn), (20, ia ha), (21, ia pa), (22, ia bl), (110, .inr (7, [.int (Int32.ofNat o2), .int (Int32.ofNat s2), .ref 111, .ref 112, .ref 113, .ref 114])), (111, wrd ws2), (112, ia sl2), (113, ia nb2)])) rfl rfl rfl rfl hlen rfl rfl rfl ((h.1 H hlen).up (by omega)) rfl ?_
            refine rt_is2 rfl (by decide +kernel) ?_
            refine rt_ald rfl (gs_o rfl l0 rfl) ?_
            refine RT_step (pc2 := 51) rfl (fun _ _ => rfl) ?_
            refine rt_ico rfl ki_0 ?_
            refine rt_ico rfl ki_0 ?_
            refine ow_iv0 (l2 := ((1, tcl n lim a2 kd2 pl2 w2 le2 nu2 tk2 (Int32.ofNat 0) fp2) :: (2, bcl bs) :: [(13, dcl13 P Dn lw cl id gl bo), (14, lng pn), (15, ia ri), (16, ia lf), (17, ia wa), (18, ia fo), (19, lng dn), (20, ia ha), (21, ia pa), (22, ia bl), (110, .inr (7, [.int (Int32.ofNat o2), .int (Int32.ofNat s3), .ref 111, .ref 112, .ref 113, .ref 114])), (111, wrd ws3), (112, ia sl3), (113, ia nb3)])) rfl rfl rfl rfl hlen rfl rfl rfl ((hadd _ _ (ov_hl hlen) (ov_at rfl (ov_lt hlen (by decide))) (ov_at rfl (ov_lt hlen (by decide))) (ov_at rfl (ov_lt hlen (by decide))) (ov_at rfl (ov_lt hlen (by decide)))).up (by omega)) rfl ?_
            refine rt_inc rfl (gs_o rfl l5 rfl) (by decide +kernel) ?_
            rw [in_1]
            refine RT_step (pc2 := 12) rfl (fun _ _ => rfl) ?_
            exact g1 H _ hlen (gs_o rfl (gs_o rfl l0 rfl) rfl) (gs_o rfl (gs_o rfl l1 rfl) rfl) (gs_o rfl (gs_o rfl l2 rfl) rfl) (gs_o rfl (gs_o rfl l3 rfl) rfl) (gs_o rfl gs_n rfl) gs_n
          · refine rt_ald rfl l0 ?_
            refine rt_bip rfl k8_18 ?_
            refine ow_iv1 (l2 := ((180, mcl (Int32.ofNat 0) (Int32.ofNat 0) n lim a pl (km kd) nm sg (Int32.ofNat 0) qm wd td (posn vs nn o wi tp)) :: (181, mtl ts) :: [(182, ia nw), (187, lng nz), (202, ia nl)])) rfl rfl rfl rfl hlen rfl rfl rfl ((m_isWord (k := 18) (ov_hl hlen) (ov_at rfl (ov_lt hlen (by decide))) hk (by decide)).up (by omega)) rfl ?_
            refine bcF_eq rfl (b01_t iw) ?_
            refine rt_ald rfl l0 ?_
            refine ow_iv0 (l2 := ((180, mcl (Int32.ofNat 0) (Int32.ofNat 0) n lim a1 pl1 (km kd1) nm1 sg1 (Int32.ofNat 0) qm1 wd1 td (posn vs nn o wi tp)) :: (181, mtl ts) :: [(182, ia nw), (187, lng nz), (202, ia nl)])) rfl rfl rfl rfl hlen rfl rfl rfl ((m1 _ (ov_hl hlen) (ov_at rfl (ov_lt hlen (by decide))) (ov_at rfl (ov_lt hlen (by decide)))).up (by omega)) rfl ?_
            refine rt_ald rfl l0 ?_
            refine ow_iv1 (l2 := ((180, mcl (Int32.ofNat 0) (Int32.ofNat 0) n lim a2 pl2 (km kd2) nm2 sg2 (Int32.ofNat 0) qm2 wd2 td2 (posn vs nn2 o2 wi tp2)) :: (181, mtl ts) :: [(182, ia nw), (187, lng nz), (202, ia nl2)])) rfl rfl rfl rfl hlen rfl rfl rfl ((h.2 H hlen).up (by omega)) rfl ?_
            refine bcF_ne rfl (by decide) ?_
            refine rt_ald rfl l0 ?_
            refine rt_ico rfl ki_2 ?_
            refine rt_ild rfl l1 ?_
            refine rt_ald rfl l0 ?_
            refine ow_gf rfl rfl rfl hlen rfl ?_
            refine rt_ico rfl ki_0 ?_
            refine ow_iv1 (l2 := ((180, mcl (Int32.ofNat 0) (Int32.ofNat 0) n lim a2 pl2 (km kd2) nm2 sg2 (Int32.ofNat 0) qm2 wd2 td2 (posn vs (nn2 + 1) o2 wi tp2)) :: (181, mtl ts) :: [(182, ia nw), (187, lng nz), (202, ia ((((nl2.set (4 * nn2) (Int32.ofNat 2)).set (4 * nn2 + 1) (Int32.ofNat aa)).set (4 * nn2 + 2) (Int32.ofNat tp2)).set (4 * nn2 + 3) (Int32.ofNat 0)))])) rfl rfl rfl rfl hlen rfl rfl rfl ((m_says (ov_hl hlen) (ov_at rfl (ov_lt hlen (by decide))) (ov_at rfl (ov_lt hlen (by decide))) ln2 (by omega)).up (by omega)) rfl ?_
            refine rt_ist rfl (by decide +kernel) ?_
            refine RT_step (pc2 := 14) rfl (fun _ _ => rfl) ?_
            exact g2 H _ hlen (gs_o rfl l0 rfl) gs_n
        · refine Or.inr ⟨k4, tk4, td4, T4, M4, o4, s4, nn4, tp4, ws4, sg4, nb4, nl4, c4, by omega, q2, by omega, q4, sx4, ln4, fun H L hlen l0 l1 l2 l3 l4 l5 => ?_, fun H L hlen l0 l1 => ?_⟩
          · refine rt_il2 rfl l5 ?_
            refine rt_bip rfl k8_20 ?_
            refine biF_ge rfl (n_nle (by omega) (by decide)) ?_
            refine rt_il2 rfl l4 ?_
            refine bcF_eq rfl (by decide) ?_
            refine rt_ald rfl l1 ?_
            refine ow_gf rfl rfl rfl hlen rfl ?_
            refine RT_step (pc2 := 31) rfl (fun _ _ => rfl) ?_
            refine rt_acN rfl (by omega) (by omega) ?_
            refine RT_if c ?_
            refine rt_ald rfl l1 ?_
            refine ow_iv0 (l2 := ((1, tcl n lim a1 kd1 pl1 w1 le1 nu1 tk (Int32.ofNat 0) fp1) :: (2, bcl bs) :: [(13, dcl13 P Dn lw cl id gl bo), (14, lng pn), (15, ia ri), (16, ia lf), (17, ia wa), (18, ia fo), (19, lng dn), (20, ia ha), (21, ia pa), (22, ia bl), (110, .inr (7, [.int (Int32.ofNat o), .int (Int32.ofNat s), .ref 111, .ref 112, .ref 113, .ref 114])), (111, wrd ws), (112, ia sgl), (113, ia nbl)])) rfl rfl rfl rfl hlen rfl rfl rfl ((x1 _ (ov_hl hlen) (ov_at rfl (ov_lt hlen (by decide))) (ov_at rfl (ov_lt hlen (by decide)))).up (by omega)) rfl ?_
            refine rt_ald rfl l0 ?_
            refine rt_ald rfl l1 ?_
            refine rt_ald rfl l2 ?_
            refine rt_ild rfl l3 ?_
            refine ow_iv1 (l2 := ((1, tcl n lim a2 kd2 pl2 w2 le2 nu2 tk2 (Int32.ofNat 0) fp2) :: (2, bcl bs) :: [(13, dcl13 P Dn lw cl id gl bo), (14, lng pn), (15, ia ri), (16, ia lf), (17, ia wa), (18, ia fo), (19, lng dn), (20, ia ha), (21, ia pa), (22, ia bl), (110, .inr (7, [.int (Int32.ofNat o2), .int (Int32.ofNat s2), .ref 111, .ref 112, .ref 113, .ref 114])), (111, wrd ws2), (112, ia sl2), (113, ia nb2)])) rfl rfl rfl rfl hlen rfl rfl rfl ((h.1 H hlen).up (by omega)) rfl ?_
            refine rt_is2 rfl (by decide +kernel) ?_
            refine rt_ald rfl (gs_o rfl l0 rfl) ?_
            refine RT_step (pc2 := 51) rfl (fun _ _ => rfl) ?_
            refine rt_ico rfl ki_0 ?_
            refine rt_ico rfl ki_0 ?_
            refine ow_iv0 (l2 := ((1, tcl n lim a2 kd2 pl2 w2 le2 nu2 tk2 (Int32.ofNat 0) fp2) :: (2, bcl bs) :: [(13, dcl13 P Dn lw cl id gl bo), (14, lng pn), (15, ia ri), (16, ia lf), (17, ia wa), (18, ia fo), (19, lng dn), (20, ia ha), (21, ia pa), (22, ia bl), (110, .inr (7, [.int (Int32.ofNat o2), .int (Int32.ofNat s3), .ref 111, .ref 112, .ref 113, .ref 114])), (111, wrd ws3), (112, ia sl3), (113, ia nb3)])) rfl rfl rfl rfl hlen rfl rfl rfl ((hadd _ _ (ov_hl hlen) (ov_at rfl (ov_lt hlen (by decide))) (ov_at rfl (ov_lt hlen (by decide))) (ov_at rfl (ov_lt hlen (by decide))) (ov_at rfl (ov_lt hlen (by decide)))).up (by omega)) rfl ?_
            refine rt_inc rfl (gs_o rfl l5 rfl) (by decide +kernel) ?_
            rw [in_1]
            refine RT_step (pc2 := 12) rfl (fun _ _ => rfl) ?_
            exact g1 H _ hlen (gs_o rfl (gs_o rfl l0 rfl) rfl) (gs_o rfl (gs_o rfl l1 rfl) rfl) (gs_o rfl (gs_o rfl l2 rfl) rfl) (gs_o rfl (gs_o rfl l3 rfl) rfl) (gs_o rfl gs_n rfl) gs_n
          · refine rt_ald rfl l0 ?_
            refine rt_bip rfl k8_18 ?_
            refine ow_iv1 (l2 := ((180, mcl (Int32.ofNat 0) (Int32.ofNat 0) n lim a pl (km kd) nm sg (Int32.ofNat 0) qm wd td (posn vs nn o wi tp)) :: (181, mtl ts) :: [(182, ia nw), (187, lng nz), (202, ia nl)])) rfl rfl rfl rfl hlen rfl rfl rfl ((m_isWord (k := 18) (ov_hl hlen) (ov_at rfl (ov_lt hlen (by decide))) hk (by decide)).up (by omega)) rfl ?_
            refine bcF_eq rfl (b01_t iw) ?_
            refine rt_ald rfl l0 ?_
            refine ow_iv0 (l2 := ((180, mcl (Int32.ofNat 0) (Int32.ofNat 0) n lim a1 pl1 (km kd1) nm1 sg1 (Int32.ofNat 0) qm1 wd1 td (posn vs nn o wi tp)) :: (181, mtl ts) :: [(182, ia nw), (187, lng nz), (202, ia nl)])) rfl rfl rfl rfl hlen rfl rfl rfl ((m1 _ (ov_hl hlen) (ov_at rfl (ov_lt hlen (by decide))) (ov_at rfl (ov_lt hlen (by decide)))).up (by omega)) rfl ?_
            refine rt_ald rfl l0 ?_
            refine ow_iv1 (l2 := ((180, mcl (Int32.ofNat 0) (Int32.ofNat 0) n lim a2 pl2 (km kd2) nm2 sg2 (Int32.ofNat 0) qm2 wd2 td2 (posn vs nn2 o2 wi tp2)) :: (181, mtl ts) :: [(182, ia nw), (187, lng nz), (202, ia nl2)])) rfl rfl rfl rfl hlen rfl rfl rfl ((h.2 H hlen).up (by omega)) rfl ?_
            refine bcF_ne rfl (by decide) ?_
            refine rt_ald rfl l0 ?_
            refine rt_ico rfl ki_2 ?_
            refine rt_ild rfl l1 ?_
            refine rt_ald rfl l0 ?_
            refine ow_gf rfl rfl rfl hlen rfl ?_
            refine rt_ico rfl ki_0 ?_
            refine ow_iv1 (l2 := ((180, mcl (Int32.ofNat 0) (Int32.ofNat 0) n lim a2 pl2 (km kd2) nm2 sg2 (Int32.ofNat 0) qm2 wd2 td2 (posn vs (nn2 + 1) o2 wi tp2)) :: (181, mtl ts) :: [(182, ia nw), (187, lng nz), (202, ia ((((nl2.set (4 * nn2) (Int32.ofNat 2)).set (4 * nn2 + 1) (Int32.ofNat aa)).set (4 * nn2 + 2) (Int32.ofNat tp2)).set (4 * nn2 + 3) (Int32.ofNat 0)))])) rfl rfl rfl rfl hlen rfl rfl rfl ((m_says (ov_hl hlen) (ov_at rfl (ov_lt hlen (by decide))) (ov_at rfl (ov_lt hlen (by decide))) ln2 (by omega)).up (by omega)) rfl ?_
            refine rt_ist rfl (by decide +kernel) ?_
            refine RT_step (pc2 := 14) rfl (fun _ _ => rfl) ?_
            exact g2 H _ hlen (gs_o rfl l0 rfl) gs_n
    · have iw : isW (km kd) wd 18 = false := by rw [iw]; exact decide_eq_false c
      refine Or.inr ⟨k, tk, td, tcl n lim a kd pl w le nu tk (Int32.ofNat 0) fp, mcl (Int32.ofNat 0) (Int32.ofNat 0) n lim a pl (km kd) nm sg (Int32.ofNat 0) qm wd td (posn vs nn o wi aa), o, s, nn, aa, ws, sgl, nbl, nl, tf_td t, by omega, ho, by omega, haa, sx, ln, fun H L hlen l0 l1 l2 l3 l4 l5 => ?_, fun H L hlen l0 l1 => ?_⟩
      · refine rt_il2 rfl l5 ?_
        refine rt_bip rfl k8_20 ?_
        refine biF_ge rfl (n_nle (by omega) (by decide)) ?_
        refine rt_il2 rfl l4 ?_
        refine bcF_eq rfl (by decide) ?_
        refine rt_ald rfl l1 ?_
        refine ow_gf rfl rfl rfl hlen rfl ?_
        refine RT_step (pc2 := 31) rfl (fun _ _ => rfl) ?_
        refine rt_acN rfl (by omega) (by omega) ?_
        refine RT_el c ?_
        refine rt_il2 rfl l4 ?_
        exact ow_irt rfl rfl rfl
      · refine rt_ald rfl l0 ?_
        refine rt_bip rfl k8_18 ?_
        refine ow_iv1 (l2 := ((180, mcl (Int32.ofNat 0) (Int32.ofNat 0) n lim a pl (km kd) nm sg (Int32.ofNat 0) qm wd td (posn vs nn o wi tp)) :: (181, mtl ts) :: [(182, ia nw), (187, lng nz), (202, ia nl)])) rfl rfl rfl rfl hlen rfl rfl rfl ((m_isWord (k := 18) (ov_hl hlen) (ov_at rfl (ov_lt hlen (by decide))) hk (by decide)).up (by omega)) rfl ?_
        refine bcT_eq rfl (b01_f iw) ?_
        refine rt_ald rfl l0 ?_
        refine rt_ild rfl l1 ?_
        refine ow_pf (l2 := ((180, mcl (Int32.ofNat 0) (Int32.ofNat 0) n lim a pl (km kd) nm sg (Int32.ofNat 0) qm wd td (posn vs nn o wi aa)) :: (181, mtl ts) :: [(182, ia nw), (187, lng nz), (202, ia nl)])) rfl rfl rfl rfl rfl hlen rfl rfl ?_
        refine rt_ico rfl ki_1 ?_
        exact ow_irt rfl rfl rfl
theorem ra13_110 {B : Nat → Nat} {bs ts : List Int32} {vs : Nat → Value} {n lim : Nat} {P : Nat} {Dn : Nat} {lw : Int32} {cl : Int32} {id : Int32} {gl : Nat} {bo : Nat} {pn : List Int64} {ri : List Int32} {lf : List Int32} {wa : List Int32} {fo : List Int32} {dn : List Int64} {ha : List Int32} {pa : List Int32} {bl : List Int32} {nw : List Int32} {nz : List Int64} (hB : BY bs B) (hM : MY ts B) (hb : ∀ i, B i < 256) (hn : n ≤ 940) (hl : lim ≤ 940) {wi KX KY : Nat} (hS : SO13_110 bs ts vs n lim P Dn lw cl id gl bo pn ri lf wa fo dn ha pa bl nw nz KX 145 [.ref 110, .ref 1, .ref 13, .int (Int32.ofNat (wi + 1))] KY 266 wi) : SO13_110 bs ts vs n lim P Dn lw cl id gl bo pn ri lf wa fo dn ha pa bl nw nz (KX + 4) 141 [.ref 110, .ref 1, .ref 13, .int (Int32.ofNat (wi + 1))] (KY + 4) 245 wi := by
  intro k a kd pl w le nu tk td fp nm sg qm wd o s nn tp ws sgl nbl nl t ho hnn htp sx ln
  rcases hS _ a kd pl w le nu tk td fp nm sg qm wd o s nn tp ws sgl nbl nl t ho hnn htp sx ln with ⟨T, M, o2, s2, nn2, tp2, ws2, sl2, nb2, nl2, f, sx2, h⟩ | ⟨k2, tk2, td2, T2, M2, o2, s2, nn2, tp2, ws2, sl2, nb2, nl2, c2, o1, o2b, on, tp2b, sx2, ln2, h⟩
  · refine Or.inl ⟨T, M, o2, s2, nn2, tp2, ws2, sl2, nb2, nl2, f, sx2, fun H hlen => ?_, fun H hlen => ?_⟩
    · refine FR_st2 (l2 := ((1, T) :: (2, bcl bs) :: [(13, dcl13 P Dn lw cl id gl bo), (14, lng pn), (15, ia ri), (16, ia lf), (17, ia wa), (18, ia fo), (19, lng dn), (20, ia ha), (21, ia pa), (22, ia bl), (110, .inr (7, [.int (Int32.ofNat o2), .int (Int32.ofNat s2), .ref 111, .ref 112, .ref 113, .ref 114])), (111, wrd ws2), (112, ia sl2), (113, ia nb2)])) rfl rfl rfl ?_
      refine RT_step (pc2 := 1) rfl (fun _ _ => rfl) ?_
      refine RT_step (pc2 := 2) rfl (fun _ _ => rfl) ?_
      refine RT_step (pc2 := 3) rfl (fun _ _ => rfl) ?_
      refine RT_step (pc2 := 4) rfl (fun _ _ => rfl) ?_
      refine ow_iv1 (l2 := ((1, T) :: (2, bcl bs) :: [(13, dcl13 P Dn lw cl id gl bo), (14, lng pn), (15, ia ri), (16, ia lf), (17, ia wa), (18, ia fo), (19, lng dn), (20, ia ha), (21, ia pa), (22, ia bl), (110, .inr (7, [.int (Int32.ofNat o2), .int (Int32.ofNat s2), .ref 111, .ref 112, .ref 113, .ref 114])), (111, wrd ws2), (112, ia sl2), (113, ia nb2)])) rfl rfl rfl rfl hlen rfl rfl rfl ((h.1 H hlen).up (by omega)) rfl ?_
      refine RT_step (pc2 := 9) rfl (fun _ _ => rfl) ?_
      refine rt_ico rfl ki_0 ?_
      refine RT_step (pc2 := 12) rfl (fun _ _ => rfl) ?_
      refine RT_step (pc2 := 14) rfl (fun _ _ => rfl) ?_
      refine rt_bip rfl k8_20 ?_
      refine biF_ge rfl (n_nle (by decide) (by decide)) ?_
      refine RT_step (pc2 := 21) rfl (fun _ _ => rfl) ?_
      refine bcT_eq rfl rfl ?_
      refine RT_step (pc2 := 64) rfl (fun _ _ => rfl) ?_
      exact ow_irt rfl rfl rfl
    · refine FR_st2 (l2 := ((180, M) :: (181, mtl ts) :: [(182, ia nw), (187, lng nz), (202, ia nl2)])) rfl rfl rfl ?_
      refine RT_step (pc2 := 1) rfl (fun _ _ => rfl) ?_
      refine ow_iv1 (l2 := ((180, M) :: (181, mtl ts) :: [(182, ia nw), (187, lng nz), (202, ia nl2)])) rfl rfl rfl rfl hlen rfl rfl rfl ((h.2 H hlen).up (by omega)) rfl ?_
      refine bcT_ne rfl rfl ?_
      refine rt_ico rfl ki_0 ?_
      exact ow_irt rfl rfl rfl
  · obtain ⟨a2, kd2, pl2, w2, le2, nu2, fp2, nm2, sg2, qm2, wd2, rfl, rfl, t2⟩ := c2
    rcases raL13_110 hB hM hb hn hl hS 20 0 rfl k2 a2 kd2 pl2 w2 le2 nu2 tk2 td2 fp2 nm2 sg2 qm2 wd2 o2 s2 nn2 tp2 tp2 ws2 sl2 nb2 nl2 t2 (by omega) o2b (by omega) tp2b tp2b sx2 ln2 with ⟨T, M, o4, s4, nn4, tp4, ws4, sg4, nb4, nl4, f, sx4, g1, g2⟩ | ⟨k4, tk4, td4, T4, M4, o4, s4, nn4, tp4, ws4, sg4, nb4, nl4, c4, q1, q2, q3, q4, sx4, ln4, g1, g2⟩
    · refine Or.inl ⟨T, M, o4, s4, nn4, tp4, ws4, sg4, nb4, nl4, f, sx4, fun H hlen => ?_, fun H hlen => ?_⟩
      · refine FR_st2 (l2 := ((1, T) :: (2, bcl bs) :: [(13, dcl13 P Dn lw cl id gl bo), (14, lng pn), (15, ia ri), (16, ia lf), (17, ia wa), (18, ia fo), (19, lng dn), (20, ia ha), (21, ia pa), (22, ia bl), (110, .inr (7, [.int (Int32.ofNat o4), .int (Int32.ofNat s4), .ref 111, .ref 112, .ref 113, .ref 114])), (111, wrd ws4), (112, ia sg4), (113, ia nb4)])) rfl rfl rfl ?_
        refine RT_step (pc2 := 1) rfl (fun _ _ => rfl) ?_
        refine RT_step (pc2 := 2) rfl (fun _ _ => rfl) ?_
        refine RT_step (pc2 := 3) rfl (fun _ _ => rfl) ?_
        refine RT_step (pc2 := 4) rfl (fun _ _ => rfl) ?_
        refine ow_iv1 (l2 := ((1, tcl n lim a2 kd2 pl2 w2 le2 nu2 tk2 (Int32.ofNat 0) fp2) :: (2, bcl bs) :: [(13, dcl13 P Dn lw cl id gl bo), (14, lng pn), (15, ia ri), (16, ia lf), (17, ia wa), (18, ia fo), (19, lng dn), (20, ia ha), (21, ia pa), (22, ia bl), (110, .inr (7, [.int (Int32.ofNat o2), .int (Int32.ofNat s2), .ref 111, .ref 112, .ref 113, .ref 114])), (111, wrd ws2), (112, ia sl2), (113, ia nb2)])) rfl rfl rfl rfl hlen rfl rfl rfl ((h.1 H hlen).up (by omega)) rfl ?_
        refine RT_step (pc2 := 9) rfl (fun _ _ => rfl) ?_
        refine rt_ico rfl ki_0 ?_
        refine RT_step (pc2 := 12) rfl (fun _ _ => rfl) ?_
        exact g1 H _ hlen rfl rfl rfl rfl rfl rfl
      · refine FR_st2 (l2 := ((180, M) :: (181, mtl ts) :: [(182, ia nw), (187, lng nz), (202, ia nl4)])) rfl rfl rfl ?_
        refine RT_step (pc2 := 1) rfl (fun _ _ => rfl) ?_
        refine ow_iv1 (l2 := ((180, mcl (Int32.ofNat 0) (Int32.ofNat 0) n lim a2 pl2 (km kd2) nm2 sg2 (Int32.ofNat 0) qm2 wd2 td2 (posn vs nn2 o2 wi tp2)) :: (181, mtl ts) :: [(182, ia nw), (187, lng nz), (202, ia nl2)])) rfl rfl rfl rfl hlen rfl rfl rfl ((h.2 H hlen).up (by omega)) rfl ?_
        refine bcF_ne rfl (by decide) ?_
        refine RT_step (pc2 := 10) rfl (fun _ _ => rfl) ?_
        refine ow_gf rfl rfl rfl hlen rfl ?_
        refine RT_step (pc2 := 14) rfl (fun _ _ => rfl) ?_
        exact g2 H _ hlen rfl rfl
    · refine Or.inr ⟨k4, tk4, td4, T4, M4, o4, s4, nn4, tp4, ws4, sg4, nb4, nl4, c4, by omega, q2, by omega, q4, sx4, ln4, fun H hlen => ?_, fun H hlen => ?_⟩
      · refine FR_st2 (l2 := ((1, T4) :: (2, bcl bs) :: [(13, dcl13 P Dn lw cl id gl bo), (14, lng pn), (15, ia ri), (16, ia lf), (17, ia wa), (18, ia fo), (19, lng dn), (20, ia ha), (21, ia pa), (22, ia bl), (110, .inr (7, [.int (Int32.ofNat o4), .int (Int32.ofNat s4), .ref 111, .ref 112, .ref 113, .ref 114])), (111, wrd ws4), (112, ia sg4), (113, ia nb4)])) rfl rfl rfl ?_
        refine RT_step (pc2 := 1) rfl (fun _ _ => rfl) ?_
        refine RT_step (pc2 := 2) rfl (fun _ _ => rfl) ?_
        refine RT_step (pc2 := 3) rfl (fun _ _ => rfl) ?_
        refine RT_step (pc2 := 4) rfl (fun _ _ => rfl) ?_
        refine ow_iv1 (l2 := ((1, tcl n lim a2 kd2 pl2 w2 le2 nu2 tk2 (Int32.ofNat 0) fp2) :: (2, bcl bs) :: [(13, dcl13 P Dn lw cl id gl bo), (14, lng pn), (15, ia ri), (16, ia lf), (17, ia wa), (18, ia fo), (19, lng dn), (20, ia ha), (21, ia pa), (22, ia bl), (110, .inr (7, [.int (Int32.ofNat o2), .int (Int32.ofNat s2), .ref 111, .ref 112, .ref 113, .ref 114])), (111, wrd ws2), (112, ia sl2), (113, ia nb2)])) rfl rfl rfl rfl hlen rfl rfl rfl ((h.1 H hlen).up (by omega)) rfl ?_
        refine RT_step (pc2 := 9) rfl (fun _ _ => rfl) ?_
        refine rt_ico rfl ki_0 ?_
        refine RT_step (pc2 := 12) rfl (fun _ _ => rfl) ?_
        exact g1 H _ hlen rfl rfl rfl rfl rfl rfl
      · refine FR_st2 (l2 := ((180, M4) :: (181, mtl ts) :: [(182, ia nw), (187, lng nz), (202, ia nl4)])) rfl rfl rfl ?_
        refine RT_step (pc2 := 1) rfl (fun _ _ => rfl) ?_
        refine ow_iv1 (l2 := ((180, mcl (Int32.ofNat 0) (Int32.ofNat 0) n lim a2 pl2 (km kd2) nm2 sg2 (Int32.ofNat 0) qm2 wd2 td2 (posn vs nn2 o2 wi tp2)) :: (181, mtl ts) :: [(182, ia nw), (187, lng nz), (202, ia nl2)])) rfl rfl rfl rfl hlen rfl rfl rfl ((h.2 H hlen).up (by omega)) rfl ?_
        refine bcF_ne rfl (by decide) ?_
        refine RT_step (pc2 := 10) rfl (fun _ _ => rfl) ?_
        refine ow_gf rfl rfl rfl hlen rfl ?_
        refine RT_step (pc2 := 14) rfl (fun _ _ => rfl) ?_
        exact g2 H _ hlen rfl rfl
theorem rcL13_110 {B : Nat → Nat} {bs ts : List Int32} {vs : Nat → Value} {n lim : Nat} {P : Nat} {Dn : Nat} {lw : Int32} {cl : Int32} {id : Int32} {gl : Nat} {bo : Nat} {pn : List Int64} {ri : List Int32} {lf : List Int32} {wa : List Int32} {fo : List Int32} {dn : List Int64} {ha : List Int32} {pa : List Int32} {bl : List Int32} {nw : List Int32} {nz : List Int64} (hB : BY bs B) (hM : MY ts B) (hb : ∀ i, B i < 256) (hn : n ≤ 940) (hl : lim ≤ 940) {wi KX KY : Nat} (hS : SO13_110 bs ts vs n lim P Dn lw cl id gl bo pn ri lf wa fo dn ha pa bl nw nz KX 141 [.ref 110, .ref 1, .ref 13, .int (Int32.ofNat (wi + 1))] KY 245 wi) : ∀ (r ii : Nat), ii + r = 20 → ∀ (k a kd pl w : Nat) (le : Int64) (nu tk td fp nm sg qm : Int32) (wd : Int64) (o s nn tp aa : Nat) (ws : List (Option Nat)) (sgl nbl nl : List Int32), TF k n a kd w le nu nm sg wd → ii + 1 ≤ o → o ≤ 20 → nn + 1 ≤ 2 * o → tp < 60 → aa < 60 → SX s ws sgl nbl → nl.length = 240 → (∃ (T M : AE) (o2 s2 nn2 tp2 : Nat) (ws2 : List (Option Nat)) (sl2 nb2 nl2 : List Int32), FC n lim (posn vs nn2 o2 wi tp2) T M ∧ SX s2 ws2 sl2 nb2 ∧ (∀ (H : List AE) (L : List (Nat × Value)), Nat.ble 204 H.length = true → ev_g L 0 = some (.ref 110) → ev_g L 1 = some (.ref 1) → ev_g L 2 = some (.ref 13) → ev_g L 3 = some (.int (Int32.ofNat (wi + 1))) → ev_g L 4 = some (.int (Int32.ofNat 1)) → ev_g L 5 = some (.int (Int32.ofNat ii)) → RT MM (KX + 3) 142 12 L [] (ov H ((1, tcl n lim a kd pl w le nu tk (Int32.ofNat 0) fp) :: (2, bcl bs) :: [(13, dcl13 P Dn lw cl id gl bo), (14, lng pn), (15, ia ri), (16, ia lf), (17, ia wa), (18, ia fo), (19, lng dn), (20, ia ha), (21, ia pa), (22, ia bl), (110, .inr (7, [.int (Int32.ofNat o), .int (Int32.ofNat s), .ref 111, .ref 112, .ref 113, .ref 114])), (111, wrd ws), (112, ia sgl), (113, ia nbl)])) (some (.int (Int32.ofNat 0)), ov H ((1, T) :: (2, bcl bs) :: [(13, dcl13 P Dn lw cl id gl bo), (14, lng pn), (15, ia ri), (16, ia lf), (17, ia wa), (18, ia fo), (19, lng dn), (20, ia ha), (21, ia pa), (22, ia bl), (110, .inr (7, [.int (Int32.ofNat o2), .int (Int32.ofNat s2), .ref 111, .ref 112, .ref 113, .ref 114])), (111, wrd ws2), (112, ia sl2), (113, ia nb2)]))) ∧ (∀ (H : List AE) (L : List (Nat × Value)), Nat.ble 204 H.length = true → ev_g L 0 = some (.ref 180) → ev_g L 1 = some (.int (Int32.ofNat aa)) → RT MM (KY + 3) 263 14 L [] (ov H ((180, mcl (Int32.ofNat 0) (Int32.ofNat 0) n lim a pl (km kd) nm sg (Int32.ofNat 0) qm wd td (posn vs nn o wi tp)) :: (181, mtl ts) :: [(182, ia nw), (187, lng nz), (202, ia nl)])) (some (.int (Int32.ofNat 0)), ov H ((180, M) :: (181, mtl ts) :: [(182, ia nw), (187, lng nz), (202, ia nl2)])))) ∨ (∃ (k2 : Nat) (tk2 td2 : Int32) (T M : AE) (o2 s2 nn2 tp2 : Nat) (ws2 : List (Option Nat)) (sl2 nb2 nl2 : List Int32), TC n lim (posn vs nn2 o2 wi tp2) k2 tk2 td2 T M ∧ o ≤ o2 ∧ o2 ≤ 20 ∧ nn2 + 2 * o ≤ nn + 2 * o2 ∧ tp2 < 60 ∧ SX s2 ws2 sl2 nb2 ∧ nl2.length = 240 ∧ (∀ (H : List AE) (L : List (Nat × Value)), Nat.ble 204 H.length = true → ev_g L 0 = some (.ref 110) → ev_g L 1 = some (.ref 1) → ev_g L 2 = some (.ref 13) → ev_g L 3 = some (.int (Int32.ofNat (wi + 1))) → ev_g L 4 = some (.int (Int32.ofNat 1)) → ev_g L 5 = some (.int (Int32.ofNat ii)) → RT MM (KX + 3) 142 12 L [] (ov H ((1, tcl n lim a kd pl w le nu tk (Int32.ofNat 0) fp) :: (2, bcl bs) :: [(13, dcl13 P Dn lw cl id gl bo), (14, lng pn), (15, ia ri), (16, ia lf), (17, ia wa), (18, ia fo), (19, lng dn), (20, ia ha), (21, ia pa), (22, ia bl), (110, .inr (7, [.int (Int32.ofNat o), .int (Int32.ofNat s), .ref 111, .ref 112, .ref 113, .ref 114])), (111, wrd ws), (112, ia sgl), (113, ia nbl)])) (some (.int (Int32.ofNat 1)), ov H ((1, T) :: (2, bcl bs) :: [(13, dcl13 P Dn lw cl id gl bo), (14, lng pn), (15, ia ri), (16, ia lf), (17, ia wa), (18, ia fo), (19, lng dn), (20, ia ha), (21, ia pa), (22, ia bl), (110, .inr (7, [.int (Int32.ofNat o2), .int (Int32.ofNat s2), .ref 111, .ref 112, .ref 113, .ref 114])), (111, wrd ws2), (112, ia sl2), (113, ia nb2)]))) ∧ (∀ (H : List AE) (L : List (Nat × Value)), Nat.ble 204 H.length = true → ev_g L 0 = some (.ref 180) → ev_g L 1 = some (.int (Int32.ofNat aa)) → RT MM (KY + 3) 263 14 L [] (ov H ((180, mcl (Int32.ofNat 0) (Int32.ofNat 0) n lim a pl (km kd) nm sg (Int32.ofNat 0) qm wd td (posn vs nn o wi tp)) :: (181, mtl ts) :: [(182, ia nw), (187, lng nz), (202, ia nl)])) (some (.int (Int32.ofNat 1)), ov H ((180, M) :: (181, mtl ts) :: [(182, ia nw), (187, lng nz), (202, ia nl2)])))) := by
  intro r
  induction r with
  | zero => intro ii hi k a kd pl w le nu tk td fp nm sg qm wd o s nn tp aa ws sgl nbl nl t h1 h2; omega
  | succ r ih =>
    intro ii hi k a kd pl w le nu tk td fp nm sg qm wd o s nn tp aa ws sgl nbl nl t h1 ho hnn htp haa sx ln
    have hk := (km_is kd t.2.2.2.1).2.2.2.2.2
    have hw := t.2.2.2.2.1
    have iw := w_is t (show 17 < 30 by decide)
    by_cases c : w = 20
    · have iw : isW (km kd) wd 17 = true := by rw [iw]; exact decide_eq_true c
      have hk1 := w_k1 t (by omega)
      obtain ⟨T1, M1, c1, x1, m1⟩ := s_adv hB hM hb hn hl (po := (posn vs nn o wi tp)) (pl := pl) (tk := tk) (td := td) (fp := fp) (plM := qm) t (by omega) (by omega)
      obtain ⟨a1, kd1, pl1, w1, le1, nu1, fp1, nm1, sg1, qm1, wd1, rfl, rfl, t1⟩ := c1
      rcases hS _ a1 kd1 pl1 w1 le1 nu1 tk td fp1 nm1 sg1 qm1 wd1 o s nn tp ws sgl nbl nl t1 ho (by omega) htp sx ln with ⟨T, M, o2, s2, nn2, tp2, ws2, sl2, nb2, nl2, f, sx2, h⟩ | ⟨k2, tk2, td2, T2, M2, o2, s2, nn2, tp2, ws2, sl2, nb2, nl2, c2, o1, o2b, on, tp2b, sx2, ln2, h⟩
      · obtain ⟨s3, ws3, sl3, nb3, sx3, hadd⟩ := sx_add110 sx2 (w := 20) (by decide) (Int32.ofNat 0) (Int32.ofNat 0)
        have f0 := f
        obtain ⟨a9, kd9, pl9, w9, le9, nu9, tk9, kk9, am9, fm9, kM9, nm9, sg9, fa9, qm9, wd9, td9, rfl, rfl, f9⟩ := f
        refine Or.inl ⟨tcl n lim a9 kd9 pl9 w9 le9 nu9 tk9 (Int32.ofNat kk9) (Int32.ofNat pl9), mcl (Int32.ofNat 0) (Int32.ofNat 0) n lim am9 fm9 kM9 nm9 sg9 fa9 qm9 wd9 td9 (posn vs nn2 o2 wi tp2), o2, s3, nn2, tp2, ws3, sl3, nb3, nl2, f0, sx3, fun H L hlen l0 l1 l2 l3 l4 l5 => ?_, fun H L hlen l0 l1 => ?_⟩
        · refine rt_il2 rfl l5 ?_
          refine rt_bip rfl k8_20 ?_
          refine biF_ge rfl (n_nle (by omega) (by decide)) ?_
          refine rt_il2 rfl l4 ?_
          refine bcF_eq rfl (by decide) ?_
          refine rt_ald rfl l1 ?_
          refine ow_gf rfl rfl rfl hlen rfl ?_
          refine RT_step (pc2 := 31) rfl (fun _ _ => rfl) ?_
          refine rt_acN rfl (by omega) (by omega) ?_
          refine RT_if c ?_
          refine rt_ald rfl l1 ?_
          refine ow_iv0 (l2 := ((1, tcl n lim a1 kd1 pl1 w1 le1 nu1 tk (Int32.ofNat 0) fp1) :: (2, bcl bs) :: [(13, dcl13 P Dn lw cl id gl bo), (14, lng pn), (15, ia ri), (16, ia lf), (17, ia wa), (18, ia fo), (19, lng dn), (20, ia ha), (21, ia pa), (22, ia bl), (110, .inr (7, [.int (Int32.ofNat o), .int (Int32.ofNat s), .ref 111, .ref 112, .ref 113, .ref 114])), (111, wrd ws), (112, ia sgl), (113, ia nbl)])) rfl rfl rfl rfl hlen rfl rfl rfl ((x1 _ (ov_hl hlen) (ov_at rfl (ov_lt hlen (by decide))) (ov_at rfl (ov_lt hlen (by decide)))).up (by omega)) rfl ?_
          refine rt_ald rfl l0 ?_
          refine rt_ald rfl l1 ?_
          refine rt_ald rfl l2 ?_
          refine rt_ild rfl l3 ?_
          refine ow_iv1 (l2 := ((1, tcl n lim a9 kd9 pl9 w9 le9 nu9 tk9 (Int32.ofNat kk9) (Int32.ofNat pl9)) :: (2, bcl bs) :: [(13, dcl13 P Dn lw cl id gl bo), (14, lng pn), (15, ia ri), (16, ia lf), (17, ia wa), (18, ia fo), (19, lng dn), (20, ia ha), (21, ia pa), (22, ia bl), (110, .inr (7, [.int (Int32.ofNat o2), .int (Int32.ofNat s2), .ref 111, .ref 112, .ref 113, .ref 114])), (111, wrd ws2), (112, ia sl2), (113, ia nb2)])) rfl rfl rfl rfl hlen rfl rfl rfl ((h.1 H hlen).up (by omega)) rfl ?_
          refine rt_is2 rfl (by decide +kernel) ?_
          refine rt_ald rfl (gs_o rfl l0 rfl) ?_
          refine RT_step (pc2 := 51) rfl (fun _ _ => rfl) ?_
          refine rt_ico rfl ki_0 ?_
          refine rt_ico rfl ki_0 ?_
          refine ow_iv0 (l2 := ((1, tcl n lim a9 kd9 pl9 w9 le9 nu9 tk9 (Int32.ofNat kk9) (Int32.ofNat pl9)) :: (2, bcl bs) :: [(13, dcl13 P Dn lw cl id gl bo), (14, lng pn), (15, ia ri), (16, ia lf), (17, ia wa), (18, ia fo), (19, lng dn), (20, ia ha), (21, ia pa), (22, ia bl), (110, .inr (7, [.int (Int32.ofNat o2), .int (Int32.ofNat s3), .ref 111, .ref 112, .ref 113, .ref 114])), (111, wrd ws3), (112, ia sl3), (113, ia nb3)])) rfl rfl rfl rfl hlen rfl rfl rfl ((hadd _ _ (ov_hl hlen) (ov_at rfl (ov_lt hlen (by decide))) (ov_at rfl (ov_lt hlen (by decide))) (ov_at rfl (ov_lt hlen (by decide))) (ov_at rfl (ov_lt hlen (by decide)))).up (by omega)) rfl ?_
          refine rt_inc rfl (gs_o rfl l5 rfl) (by decide +kernel) ?_
          rw [in_1]
          refine RT_step (pc2 := 12) rfl (fun _ _ => rfl) ?_
          by_cases c9 : ii + 1 < 20
          · refine rt_il2 rfl gs_n ?_
            refine rt_bip rfl k8_20 ?_
            refine biF_ge rfl (n_nle (by omega) (by omega)) ?_
            refine rt_il2 rfl (gs_o rfl gs_n rfl) ?_
            refine bcT_eq rfl rfl ?_
            refine rt_il2 rfl (gs_o rfl gs_n rfl) ?_
            exact ow_irt rfl rfl rfl
          · refine rt_il2 rfl gs_n ?_
            refine rt_bip rfl k8_20 ?_
            refine biT_ge rfl (n_le (by omega) (by omega)) ?_
            refine rt_il2 rfl (gs_o rfl gs_n rfl) ?_
            exact ow_irt rfl rfl rfl
        · refine rt_ald rfl l0 ?_
          refine rt_bip rfl k8_17 ?_
          refine ow_iv1 (l2 := ((180, mcl (Int32.ofNat 0) (Int32.ofNat 0) n lim a pl (km kd) nm sg (Int32.ofNat 0) qm wd td (posn vs nn o wi tp)) :: (181, mtl ts) :: [(182, ia nw), (187, lng nz), (202, ia nl)])) rfl rfl rfl rfl hlen rfl rfl rfl ((m_isWord (k := 17) (ov_hl hlen) (ov_at rfl (ov_lt hlen (by decide))) hk (by decide)).up (by omega)) rfl ?_
          refine bcF_eq rfl (b01_t iw) ?_
          refine rt_ald rfl l0 ?_
          refine ow_iv0 (l2 := ((180, mcl (Int32.ofNat 0) (Int32.ofNat 0) n lim a1 pl1 (km kd1) nm1 sg1 (Int32.ofNat 0) qm1 wd1 td (posn vs nn o wi tp)) :: (181, mtl ts) :: [(182, ia nw), (187, lng nz), (202, ia nl)])) rfl rfl rfl rfl hlen rfl rfl rfl ((m1 _ (ov_hl hlen) (ov_at rfl (ov_lt hlen (by decide))) (ov_at rfl (ov_lt hlen (by decide)))).up (by omega)) rfl ?_
          refine rt_ald rfl l0 ?_
          refine ow_iv1 (l2 := ((180, mcl (Int32.ofNat 0) (Int32.ofNat 0) n lim am9 fm9 kM9 nm9 sg9 fa9 qm9 wd9 td9 (posn vs nn2 o2 wi tp2)) :: (181, mtl ts) :: [(182, ia nw), (187, lng nz), (202, ia nl2)])) rfl rfl rfl rfl hlen rfl rfl rfl ((h.2 H hlen).up (by omega)) rfl ?_
          refine bcT_ne rfl rfl ?_
          refine rt_ico rfl ki_0 ?_
          exact ow_irt rfl rfl rfl
      · obtain ⟨a2, kd2, pl2, w2, le2, nu2, fp2, nm2, sg2, qm2, wd2, rfl, rfl, t2⟩ := c2
        obtain ⟨s3, ws3, sl3, nb3, sx3, hadd⟩ := sx_add110 sx2 (w := 20) (by decide) (Int32.ofNat 0) (Int32.ofNat 0)
        have ln3 : ((((nl2.set (4 * nn2) (Int32.ofNat 3)).set (4 * nn2 + 1) (Int32.ofNat aa)).set (4 * nn2 + 2) (Int32.ofNat tp2)).set (4 * nn2 + 3) (Int32.ofNat 0)).length = 240 := by simp only [List.length_set]; exact ln2
        rcases ih (ii + 1) (by omega) k2 a2 kd2 pl2 w2 le2 nu2 tk2 td2 fp2 nm2 sg2 qm2 wd2 o2 s3 (nn2 + 1) tp2 nn2 ws3 sl3 nb3 ((((nl2.set (4 * nn2) (Int32.ofNat 3)).set (4 * nn2 + 1) (Int32.ofNat aa)).set (4 * nn2 + 2) (Int32.ofNat tp2)).set (4 * nn2 + 3) (Int32.ofNat 0)) t2 (by omega) o2b (by omega) tp2b (by omega) sx3 ln3 with ⟨T, M, o4, s4, nn4, tp4, ws4, sg4, nb4, nl4, f, sx4, g1, g2⟩ | ⟨k4, tk4, td4, T4, M4, o4, s4, nn4, tp4, ws4, sg4, nb4, nl4, c4, q1, q2, q3, q4, sx4, ln4, g1, g2⟩
        · refine Or.inl ⟨T, M, o4, s4, nn4, tp4, ws4, sg4, nb4, nl4, f, sx4, fun H L hlen l0 l1 l2 l3 l4 l5 => ?_, fun H L hlen l0 l1 => ?_⟩
          · refine rt_il2 rfl l5 ?_
            refine rt_bip rfl k8_20 ?_
            refine biF_ge rfl (n_nle (by omega) (by decide)) ?_
            refine rt_il2 rfl l4 ?_
            refine bcF_eq rfl (by decide) ?_
            refine rt_ald rfl l1 ?_
            refine ow_gf rfl rfl rfl hlen rfl ?_
            refine RT_step (pc2 := 31) rfl (fun _ _ => rfl) ?_
            refine rt_acN rfl (by omega) (by omega) ?_
            refine RT_if c ?_
            refine rt_ald rfl l1 ?_
            refine ow_iv0 (l2 := ((1, tcl n lim a1 kd1 pl1 w1 le1 nu1 tk (Int32.ofNat 0) fp1) :: (2, bcl bs) :: [(13, dcl13 P Dn lw cl id gl bo), (14, lng pn), (15, ia ri), (16, ia lf), (17, ia wa), (18, ia fo), (19, lng dn), (20, ia ha), (21, ia pa), (22, ia bl), (110, .inr (7, [.int (Int32.ofNat o), .int (Int32.ofNat s), .ref 111, .ref 112, .ref 113, .ref 114])), (111, wrd ws), (112, ia sgl), (113, ia nbl)])) rfl rfl rfl rfl hlen rfl rfl rfl ((x1 _ (ov_hl hlen) (ov_at rfl (ov_lt hlen (by decide))) (ov_at rfl (ov_lt hlen (by decide)))).up (by omega)) rfl ?_
            refine rt_ald rfl l0 ?_
            refine rt_ald rfl l1 ?_
            refine rt_ald rfl l2 ?_
            refine rt_ild rfl l3 ?_
            refine ow_iv1 (l2 := ((1, tcl n lim a2 kd2 pl2 w2 le2 nu2 tk2 (Int32.ofNat 0) fp2) :: (2, bcl bs) :: [(13, dcl13 P Dn lw cl id gl bo), (14, lng pn), (15, ia ri), (16, ia lf), (17, ia wa), (18, ia fo), (19, lng dn), (20, ia ha), (21, ia pa), (22, ia bl), (110, .inr (7, [.int (Int32.ofNat o2), .int (Int32.ofNat s2), .ref 111, .ref 112, .ref 113, .ref 114])), (111, wrd ws2), (112, ia sl2), (113, ia nb2)])) rfl rfl rfl rfl hlen rfl rfl rfl ((h.1 H hlen).up (by omega)) rfl ?_
            refine rt_is2 rfl (by decide +kernel) ?_
            refine rt_ald rfl (gs_o rfl l0 rfl) ?_
            refine RT_step (pc2 := 51) rfl (fun _ _ => rfl) ?_
            refine rt_ico rfl ki_0 ?_
            refine rt_ico rfl ki_0 ?_
            refine ow_iv0 (l2 := ((1, tcl n lim a2 kd2 pl2 w2 le2 nu2 tk2 (Int32.ofNat 0) fp2) :: (2, bcl bs) :: [(13, dcl13 P Dn lw cl id gl bo), (14, lng pn), (15, ia ri), (16, ia lf), (17, ia wa), (18, ia fo), (19, lng dn), (20, ia ha), (21, ia pa), (22, ia bl), (110, .inr (7, [.int (Int32.ofNat o2), .int (Int32.ofNat s3), .ref 111, .ref 112, .ref 113, .ref 114])), (111, wrd ws3), (112, ia sl3), (113, ia nb3)])) rfl rfl rfl rfl hlen rfl rfl rfl ((hadd _ _ (ov_hl hlen) (ov_at rfl (ov_lt hlen (by decide))) (ov_at rfl (ov_lt hlen (by decide))) (ov_at rfl (ov_lt hlen (by decide))) (ov_at rfl (ov_lt hlen (by decide)))).up (by omega)) rfl ?_
            refine rt_inc rfl (gs_o rfl l5 rfl) (by decide +kernel) ?_
            rw [in_1]
            refine RT_step (pc2 := 12) rfl (fun _ _ => rfl) ?_
            exact g1 H _ hlen (gs_o rfl (gs_o rfl l0 rfl) rfl) (gs_o rfl (gs_o rfl l1 rfl) rfl) (gs_o rfl (gs_o rfl l2 rfl) rfl) (gs_o rfl (gs_o rfl l3 rfl) rfl) (gs_o rfl gs_n rfl) gs_n
          · refine rt_ald rfl l0 ?_
            refine rt_bip rfl k8_17 ?_
            refine ow_iv1 (l2 := ((180, mcl (Int32.ofNat 0) (Int32.ofNat 0) n lim a pl (km kd) nm sg (Int32.ofNat 0) qm wd td (posn vs nn o wi tp)) :: (181, mtl ts) :: [(182, ia nw), (187, lng nz), (202, ia nl)])) rfl rfl rfl rfl hlen rfl rfl rfl ((m_isWord (k := 17) (ov_hl hlen) (ov_at rfl (ov_lt hlen (by decide))) hk (by decide)).up (by omega)) rfl ?_
            refine bcF_eq rfl (b01_t iw) ?_
            refine rt_ald rfl l0 ?_
            refine ow_iv0 (l2 := ((180, mcl (Int32.ofNat 0) (Int32.ofNat 0) n lim a1 pl1 (km kd1) nm1 sg1 (Int32.ofNat 0) qm1 wd1 td (posn vs nn o wi tp)) :: (181, mtl ts) :: [(182, ia nw), (187, lng nz), (202, ia nl)])) rfl rfl rfl rfl hlen rfl rfl rfl ((m1 _ (ov_hl hlen) (ov_at rfl (ov_lt hlen (by decide))) (ov_at rfl (ov_lt hlen (by decide)))).up (by omega)) rfl ?_
            refine rt_ald rfl l0 ?_
            refine ow_iv1 (l2 := ((180, mcl (Int32.ofNat 0) (Int32.ofNat 0) n lim a2 pl2 (km kd2) nm2 sg2 (Int32.ofNat 0) qm2 wd2 td2 (posn vs nn2 o2 wi tp2)) :: (181, mtl ts) :: [(182, ia nw), (187, lng nz), (202, ia nl2)])) rfl rfl rfl rfl hlen rfl rfl rfl ((h.2 H hlen).up (by omega)) rfl ?_
            refine bcF_ne rfl (by decide) ?_
            refine rt_ald rfl l0 ?_
            refine rt_ico rfl ki_3 ?_
            refine rt_ild rfl l1 ?_
            refine rt_ald rfl l0 ?_
            refine ow_gf rfl rfl rfl hlen rfl ?_
            refine rt_ico rfl ki_0 ?_
            refine ow_iv1 (l2 := ((180, mcl (Int32.ofNat 0) (Int32.ofNat 0) n lim a2 pl2 (km kd2) nm2 sg2 (Int32.ofNat 0) qm2 wd2 td2 (posn vs (nn2 + 1) o2 wi tp2)) :: (181, mtl ts) :: [(182, ia nw), (187, lng nz), (202, ia ((((nl2.set (4 * nn2) (Int32.ofNat 3)).set (4 * nn2 + 1) (Int32.ofNat aa)).set (4 * nn2 + 2) (Int32.ofNat tp2)).set (4 * nn2 + 3) (Int32.ofNat 0)))])) rfl rfl rfl rfl hlen rfl rfl rfl ((m_says (ov_hl hlen) (ov_at rfl (ov_lt hlen (by decide))) (ov_at rfl (ov_lt hlen (by decide))) ln2 (by omega)).up (by omega)) rfl ?_
            refine rt_ist rfl (by decide +kernel) ?_
            refine RT_step (pc2 := 14) rfl (fun _ _ => rfl) ?_
            exact g2 H _ hlen (gs_o rfl l0 rfl) gs_n
        · refine Or.inr ⟨k4, tk4, td4, T4, M4, o4, s4, nn4, tp4, ws4, sg4, nb4, nl4, c4, by omega, q2, by omega, q4, sx4, ln4, fun H L hlen l0 l1 l2 l3 l4 l5 => ?_, fun H L hlen l0 l1 => ?_⟩
          · refine rt_il2 rfl l5 ?_
            refine rt_bip rfl k8_20 ?_
            refine biF_ge rfl (n_nle (by omega) (by decide)) ?_
            refine rt_il2 rfl l4 ?_
            refine bcF_eq rfl (by decide) ?_
            refine rt_ald rfl l1 ?_
            refine ow_gf rfl rfl rfl hlen rfl ?_
            refine RT_step (pc2 := 31) rfl (fun _ _ => rfl) ?_
            refine rt_acN rfl (by omega) (by omega) ?_
            refine RT_if c ?_
            refine rt_ald rfl l1 ?_
            refine ow_iv0 (l2 := ((1, tcl n lim a1 kd1 pl1 w1 le1 nu1 tk (Int32.ofNat 0) fp1) :: (2, bcl bs) :: [(13, dcl13 P Dn lw cl id gl bo), (14, lng pn), (15, ia ri), (16, ia lf), (17, ia wa), (18, ia fo), (19, lng dn), (20, ia ha), (21, ia pa), (22, ia bl), (110, .inr (7, [.int (Int32.ofNat o), .int (Int32.ofNat s), .ref 111, .ref 112, .ref 113, .ref 114])), (111, wrd ws), (112, ia sgl), (113, ia nbl)])) rfl rfl rfl rfl hlen rfl rfl rfl ((x1 _ (ov_hl hlen) (ov_at rfl (ov_lt hlen (by decide))) (ov_at rfl (ov_lt hlen (by decide)))).up (by omega)) rfl ?_
            refine rt_ald rfl l0 ?_
            refine rt_ald rfl l1 ?_
            refine rt_ald rfl l2 ?_
            refine rt_ild rfl l3 ?_
            refine ow_iv1 (l2 := ((1, tcl n lim a2 kd2 pl2 w2 le2 nu2 tk2 (Int32.ofNat 0) fp2) :: (2, bcl bs) :: [(13, dcl13 P Dn lw cl id gl bo), (14, lng pn), (15, ia ri), (16, ia lf), (17, ia wa), (18, ia fo), (19, lng dn), (20, ia ha), (21, ia pa), (22, ia bl), (110, .inr (7, [.int (Int32.ofNat o2), .int (Int32.ofNat s2), .ref 111, .ref 112, .ref 113, .ref 114])), (111, wrd ws2), (112, ia sl2), (113, ia nb2)])) rfl rfl rfl rfl hlen rfl rfl rfl ((h.1 H hlen).up (by omega)) rfl ?_
            refine rt_is2 rfl (by decide +kernel) ?_
            refine rt_ald rfl (gs_o rfl l0 rfl) ?_
            refine RT_step (pc2 := 51) rfl (fun _ _ => rfl) ?_
            refine rt_ico rfl ki_0 ?_
            refine rt_ico rfl ki_0 ?_
            refine ow_iv0 (l2 := ((1, tcl n lim a2 kd2 pl2 w2 le2 nu2 tk2 (Int32.ofNat 0) fp2) :: (2, bcl bs) :: [(13, dcl13 P Dn lw cl id gl bo), (14, lng pn), (15, ia ri), (16, ia lf), (17, ia wa), (18, ia fo), (19, lng dn), (20, ia ha), (21, ia pa), (22, ia bl), (110, .inr (7, [.int (Int32.ofNat o2), .int (Int32.ofNat s3), .ref 111, .ref 112, .ref 113, .ref 114])), (111, wrd ws3), (112, ia sl3), (113, ia nb3)])) rfl rfl rfl rfl hlen rfl rfl rfl ((hadd _ _ (ov_hl hlen) (ov_at rfl (ov_lt hlen (by decide))) (ov_at rfl (ov_lt hlen (by decide))) (ov_at rfl (ov_lt hlen (by decide))) (ov_at rfl (ov_lt hlen (by decide)))).up (by omega)) rfl ?_
            refine rt_inc rfl (gs_o rfl l5 rfl) (by decide +kernel) ?_
            rw [in_1]
            refine RT_step (pc2 := 12) rfl (fun _ _ => rfl) ?_
            exact g1 H _ hlen (gs_o rfl (gs_o rfl l0 rfl) rfl) (gs_o rfl (gs_o rfl l1 rfl) rfl) (gs_o rfl (gs_o rfl l2 rfl) rfl) (gs_o rfl (gs_o rfl l3 rfl) rfl) (gs_o rfl gs_n rfl) gs_n
          · refine rt_ald rfl l0 ?_
            refine rt_bip rfl k8_17 ?_
            refine ow_iv1 (l2 := ((180, mcl (Int32.ofNat 0) (Int32.ofNat 0) n lim a pl (km kd) nm sg (Int32.ofNat 0) qm wd td (posn vs nn o wi tp)) :: (181, mtl ts) :: [(182, ia nw), (187, lng nz), (202, ia nl)])) rfl rfl rfl rfl hlen rfl rfl rfl ((m_isWord (k := 17) (ov_hl hlen) (ov_at rfl (ov_lt hlen (by decide))) hk (by decide)).up (by omega)) rfl ?_
            refine bcF_eq rfl (b01_t iw) ?_
            refine rt_ald rfl l0 ?_
            refine ow_iv0 (l2 := ((180, mcl (Int32.ofNat 0) (Int32.ofNat 0) n lim a1 pl1 (km kd1) nm1 sg1 (Int32.ofNat 0) qm1 wd1 td (posn vs nn o wi tp)) :: (181, mtl ts) :: [(182, ia nw), (187, lng nz), (202, ia nl)])) rfl rfl rfl rfl hlen rfl rfl rfl ((m1 _ (ov_hl hlen) (ov_at rfl (ov_lt hlen (by decide))) (ov_at rfl (ov_lt hlen (by decide)))).up (by omega)) rfl ?_
            refine rt_ald rfl l0 ?_
            refine ow_iv1 (l2 := ((180, mcl (Int32.ofNat 0) (Int32.ofNat 0) n lim a2 pl2 (km kd2) nm2 sg2 (Int32.ofNat 0) qm2 wd2 td2 (posn vs nn2 o2 wi tp2)) :: (181, mtl ts) :: [(182, ia nw), (187, lng nz), (202, ia nl2)])) rfl rfl rfl rfl hlen rfl rfl rfl ((h.2 H hlen).up (by omega)) rfl ?_
            refine bcF_ne rfl (by decide) ?_
            refine rt_ald rfl l0 ?_
            refine rt_ico rfl ki_3 ?_
            refine rt_ild rfl l1 ?_
            refine rt_ald rfl l0 ?_
            refine ow_gf rfl rfl rfl hlen rfl ?_
            refine rt_ico rfl ki_0 ?_
            refine ow_iv1 (l2 := ((180, mcl (Int32.ofNat 0) (Int32.ofNat 0) n lim a2 pl2 (km kd2) nm2 sg2 (Int32.ofNat 0) qm2 wd2 td2 (posn vs (nn2 + 1) o2 wi tp2)) :: (181, mtl ts) :: [(182, ia nw), (187, lng nz), (202, ia ((((nl2.set (4 * nn2) (Int32.ofNat 3)).set (4 * nn2 + 1) (Int32.ofNat aa)).set (4 * nn2 + 2) (Int32.ofNat tp2)).set (4 * nn2 + 3) (Int32.ofNat 0)))])) rfl rfl rfl rfl hlen rfl rfl rfl ((m_says (ov_hl hlen) (ov_at rfl (ov_lt hlen (by decide))) (ov_at rfl (ov_lt hlen (by decide))) ln2 (by omega)).up (by omega)) rfl ?_
            refine rt_ist rfl (by decide +kernel) ?_
            refine RT_step (pc2 := 14) rfl (fun _ _ => rfl) ?_
            exact g2 H _ hlen (gs_o rfl l0 rfl) gs_n
    · have iw : isW (km kd) wd 17 = false := by rw [iw]; exact decide_eq_false c
      refine Or.inr ⟨k, tk, td, tcl n lim a kd pl w le nu tk (Int32.ofNat 0) fp, mcl (Int32.ofNat 0) (Int32.ofNat 0) n lim a pl (km kd) nm sg (Int32.ofNat 0) qm wd td (posn vs nn o wi aa), o, s, nn, aa, ws, sgl, nbl, nl, tf_td t, by omega, ho, by omega, haa, sx, ln, fun H L hlen l0 l1 l2 l3 l4 l5 => ?_, fun H L hlen l0 l1 => ?_⟩
      · refine rt_il2 rfl l5 ?_
        refine rt_bip rfl k8_20 ?_
        refine biF_ge rfl (n_nle (by omega) (by decide)) ?_
        refine rt_il2 rfl l4 ?_
        refine bcF_eq rfl (by decide) ?_
        refine rt_ald rfl l1 ?_
        refine ow_gf rfl rfl rfl hlen rfl ?_
        refine RT_step (pc2 := 31) rfl (fun _ _ => rfl) ?_
        refine rt_acN rfl (by omega) (by omega) ?_
        refine RT_el c ?_
        refine rt_il2 rfl l4 ?_
        exact ow_irt rfl rfl rfl
      · refine rt_ald rfl l0 ?_
        refine rt_bip rfl k8_17 ?_
        refine ow_iv1 (l2 := ((180, mcl (Int32.ofNat 0) (Int32.ofNat 0) n lim a pl (km kd) nm sg (Int32.ofNat 0) qm wd td (posn vs nn o wi tp)) :: (181, mtl ts) :: [(182, ia nw), (187, lng nz), (202, ia nl)])) rfl rfl rfl rfl hlen rfl rfl rfl ((m_isWord (k := 17) (ov_hl hlen) (ov_at rfl (ov_lt hlen (by decide))) hk (by decide)).up (by omega)) rfl ?_
        refine bcT_eq rfl (b01_f iw) ?_
        refine rt_ald rfl l0 ?_
        refine rt_ild rfl l1 ?_
        refine ow_pf (l2 := ((180, mcl (Int32.ofNat 0) (Int32.ofNat 0) n lim a pl (km kd) nm sg (Int32.ofNat 0) qm wd td (posn vs nn o wi aa)) :: (181, mtl ts) :: [(182, ia nw), (187, lng nz), (202, ia nl)])) rfl rfl rfl rfl rfl hlen rfl rfl ?_
        refine rt_ico rfl ki_1 ?_
        exact ow_irt rfl rfl rfl
theorem rc13_110 {B : Nat → Nat} {bs ts : List Int32} {vs : Nat → Value} {n lim : Nat} {P : Nat} {Dn : Nat} {lw : Int32} {cl : Int32} {id : Int32} {gl : Nat} {bo : Nat} {pn : List Int64} {ri : List Int32} {lf : List Int32} {wa : List Int32} {fo : List Int32} {dn : List Int64} {ha : List Int32} {pa : List Int32} {bl : List Int32} {nw : List Int32} {nz : List Int64} (hB : BY bs B) (hM : MY ts B) (hb : ∀ i, B i < 256) (hn : n ≤ 940) (hl : lim ≤ 940) {wi KX KY : Nat} (hS : SO13_110 bs ts vs n lim P Dn lw cl id gl bo pn ri lf wa fo dn ha pa bl nw nz KX 141 [.ref 110, .ref 1, .ref 13, .int (Int32.ofNat (wi + 1))] KY 245 wi) : SO13_110 bs ts vs n lim P Dn lw cl id gl bo pn ri lf wa fo dn ha pa bl nw nz (KX + 4) 142 [.ref 110, .ref 1, .ref 13, .int (Int32.ofNat (wi + 1))] (KY + 4) 263 wi := by
  intro k a kd pl w le nu tk td fp nm sg qm wd o s nn tp ws sgl nbl nl t ho hnn htp sx ln
  rcases hS _ a kd pl w le nu tk td fp nm sg qm wd o s nn tp ws sgl nbl nl t ho hnn htp sx ln with ⟨T, M, o2, s2, nn2, tp2, ws2, sl2, nb2, nl2, f, sx2, h⟩ | ⟨k2, tk2, td2, T2, M2, o2, s2, nn2, tp2, ws2, sl2, nb2, nl2, c2, o1, o2b, on, tp2b, sx2, ln2, h⟩
  · refine Or.inl ⟨T, M, o2, s2, nn2, tp2, ws2, sl2, nb2, nl2, f, sx2, fun H hlen => ?_, fun H hlen => ?_⟩
    · refine FR_st2 (l2 := ((1, T) :: (2, bcl bs) :: [(13, dcl13 P Dn lw cl id gl bo), (14, lng pn), (15, ia ri), (16, ia lf), (17, ia wa), (18, ia fo), (19, lng dn), (20, ia ha), (21, ia pa), (22, ia bl), (110, .inr (7, [.int (Int32.ofNat o2), .int (Int32.ofNat s2), .ref 111, .ref 112, .ref 113, .ref 114])), (111, wrd ws2), (112, ia sl2), (113, ia nb2)])) rfl rfl rfl ?_
      refine RT_step (pc2 := 1) rfl (fun _ _ => rfl) ?_
      refine RT_step (pc2 := 2) rfl (fun _ _ => rfl) ?_
      refine RT_step (pc2 := 3) rfl (fun _ _ => rfl) ?_
      refine RT_step (pc2 := 4) rfl (fun _ _ => rfl) ?_
      refine ow_iv1 (l2 := ((1, T) :: (2, bcl bs) :: [(13, dcl13 P Dn lw cl id gl bo), (14, lng pn), (15, ia ri), (16, ia lf), (17, ia wa), (18, ia fo), (19, lng dn), (20, ia ha), (21, ia pa), (22, ia bl), (110, .inr (7, [.int (Int32.ofNat o2), .int (Int32.ofNat s2), .ref 111, .ref 112, .ref 113, .ref 114])), (111, wrd ws2), (112, ia sl2), (113, ia nb2)])) rfl rfl rfl rfl hlen rfl rfl rfl ((h.1 H hlen).up (by omega)) rfl ?_
      refine RT_step (pc2 := 9) rfl (fun _ _ => rfl) ?_
      refine rt_ico rfl ki_0 ?_
      refine RT_step (pc2 := 12) rfl (fun _ _ => rfl) ?_
      refine RT_step (pc2 := 14) rfl (fun _ _ => rfl) ?_
      refine rt_bip rfl k8_20 ?_
      refine biF_ge rfl (n_nle (by decide) (by decide)) ?_
      refine RT_step (pc2 := 21) rfl (fun _ _ => rfl) ?_
      refine bcT_eq rfl rfl ?_
      refine RT_step (pc2 := 64) rfl (fun _ _ => rfl) ?_
      exact ow_irt rfl rfl rfl
    · refine FR_st2 (l2 := ((180, M) :: (181, mtl ts) :: [(182, ia nw), (187, lng nz), (202, ia nl2)])) rfl rfl rfl ?_
      refine RT_step (pc2 := 1) rfl (fun _ _ => rfl) ?_
      refine ow_iv1 (l2 := ((180, M) :: (181, mtl ts) :: [(182, ia nw), (187, lng nz), (202, ia nl2)])) rfl rfl rfl rfl hlen rfl rfl rfl ((h.2 H hlen).up (by omega)) rfl ?_
      refine bcT_ne rfl rfl ?_
      refine rt_ico rfl ki_0 ?_
      exact ow_irt rfl rfl rfl
  · obtain ⟨a2, kd2, pl2, w2, le2, nu2, fp2, nm2, sg2, qm2, wd2, rfl, rfl, t2⟩ := c2
    rcases rcL13_110 hB hM hb hn hl hS 20 0 rfl k2 a2 kd2 pl2 w2 le2 nu2 tk2 td2 fp2 nm2 sg2 qm2 wd2 o2 s2 nn2 tp2 tp2 ws2 sl2 nb2 nl2 t2 (by omega) o2b (by omega) tp2b tp2b sx2 ln2 with ⟨T, M, o4, s4, nn4, tp4, ws4, sg4, nb4, nl4, f, sx4, g1, g2⟩ | ⟨k4, tk4, td4, T4, M4, o4, s4, nn4, tp4, ws4, sg4, nb4, nl4, c4, q1, q2, q3, q4, sx4, ln4, g1, g2⟩
    · refine Or.inl ⟨T, M, o4, s4, nn4, tp4, ws4, sg4, nb4, nl4, f, sx4, fun H hlen => ?_, fun H hlen => ?_⟩
      · refine FR_st2 (l2 := ((1, T) :: (2, bcl bs) :: [(13, dcl13 P Dn lw cl id gl bo), (14, lng pn), (15, ia ri), (16, ia lf), (17, ia wa), (18, ia fo), (19, lng dn), (20, ia ha), (21, ia pa), (22, ia bl), (110, .inr (7, [.int (Int32.ofNat o4), .int (Int32.ofNat s4), .ref 111, .ref 112, .ref 113, .ref 114])), (111, wrd ws4), (112, ia sg4), (113, ia nb4)])) rfl rfl rfl ?_
        refine RT_step (pc2 := 1) rfl (fun _ _ => rfl) ?_
        refine RT_step (pc2 := 2) rfl (fun _ _ => rfl) ?_
        refine RT_step (pc2 := 3) rfl (fun _ _ => rfl) ?_
        refine RT_step (pc2 := 4) rfl (fun _ _ => rfl) ?_
        refine ow_iv1 (l2 := ((1, tcl n lim a2 kd2 pl2 w2 le2 nu2 tk2 (Int32.ofNat 0) fp2) :: (2, bcl bs) :: [(13, dcl13 P Dn lw cl id gl bo), (14, lng pn), (15, ia ri), (16, ia lf), (17, ia wa), (18, ia fo), (19, lng dn), (20, ia ha), (21, ia pa), (22, ia bl), (110, .inr (7, [.int (Int32.ofNat o2), .int (Int32.ofNat s2), .ref 111, .ref 112, .ref 113, .ref 114])), (111, wrd ws2), (112, ia sl2), (113, ia nb2)])) rfl rfl rfl rfl hlen rfl rfl rfl ((h.1 H hlen).up (by omega)) rfl ?_
        refine RT_step (pc2 := 9) rfl (fun _ _ => rfl) ?_
        refine rt_ico rfl ki_0 ?_
        refine RT_step (pc2 := 12) rfl (fun _ _ => rfl) ?_
        exact g1 H _ hlen rfl rfl rfl rfl rfl rfl
      · refine FR_st2 (l2 := ((180, M) :: (181, mtl ts) :: [(182, ia nw), (187, lng nz), (202, ia nl4)])) rfl rfl rfl ?_
        refine RT_step (pc2 := 1) rfl (fun _ _ => rfl) ?_
        refine ow_iv1 (l2 := ((180, mcl (Int32.ofNat 0) (Int32.ofNat 0) n lim a2 pl2 (km kd2) nm2 sg2 (Int32.ofNat 0) qm2 wd2 td2 (posn vs nn2 o2 wi tp2)) :: (181, mtl ts) :: [(182, ia nw), (187, lng nz), (202, ia nl2)])) rfl rfl rfl rfl hlen rfl rfl rfl ((h.2 H hlen).up (by omega)) rfl ?_
        refine bcF_ne rfl (by decide) ?_
        refine RT_step (pc2 := 10) rfl (fun _ _ => rfl) ?_
        refine ow_gf rfl rfl rfl hlen rfl ?_
        refine RT_step (pc2 := 14) rfl (fun _ _ => rfl) ?_
        exact g2 H _ hlen rfl rfl
    · refine Or.inr ⟨k4, tk4, td4, T4, M4, o4, s4, nn4, tp4, ws4, sg4, nb4, nl4, c4, by omega, q2, by omega, q4, sx4, ln4, fun H hlen => ?_, fun H hlen => ?_⟩
      · refine FR_st2 (l2 := ((1, T4) :: (2, bcl bs) :: [(13, dcl13 P Dn lw cl id gl bo), (14, lng pn), (15, ia ri), (16, ia lf), (17, ia wa), (18, ia fo), (19, lng dn), (20, ia ha), (21, ia pa), (22, ia bl), (110, .inr (7, [.int (Int32.ofNat o4), .int (Int32.ofNat s4), .ref 111, .ref 112, .ref 113, .ref 114])), (111, wrd ws4), (112, ia sg4), (113, ia nb4)])) rfl rfl rfl ?_
        refine RT_step (pc2 := 1) rfl (fun _ _ => rfl) ?_
        refine RT_step (pc2 := 2) rfl (fun _ _ => rfl) ?_
        refine RT_step (pc2 := 3) rfl (fun _ _ => rfl) ?_
        refine RT_step (pc2 := 4) rfl (fun _ _ => rfl) ?_
        refine ow_iv1 (l2 := ((1, tcl n lim a2 kd2 pl2 w2 le2 nu2 tk2 (Int32.ofNat 0) fp2) :: (2, bcl bs) :: [(13, dcl13 P Dn lw cl id gl bo), (14, lng pn), (15, ia ri), (16, ia lf), (17, ia wa), (18, ia fo), (19, lng dn), (20, ia ha), (21, ia pa), (22, ia bl), (110, .inr (7, [.int (Int32.ofNat o2), .int (Int32.ofNat s2), .ref 111, .ref 112, .ref 113, .ref 114])), (111, wrd ws2), (112, ia sl2), (113, ia nb2)])) rfl rfl rfl rfl hlen rfl rfl rfl ((h.1 H hlen).up (by omega)) rfl ?_
        refine RT_step (pc2 := 9) rfl (fun _ _ => rfl) ?_
        refine rt_ico rfl ki_0 ?_
        refine RT_step (pc2 := 12) rfl (fun _ _ => rfl) ?_
        exact g1 H _ hlen rfl rfl rfl rfl rfl rfl
      · refine FR_st2 (l2 := ((180, M4) :: (181, mtl ts) :: [(182, ia nw), (187, lng nz), (202, ia nl4)])) rfl rfl rfl ?_
        refine RT_step (pc2 := 1) rfl (fun _ _ => rfl) ?_
        refine ow_iv1 (l2 := ((180, mcl (Int32.ofNat 0) (Int32.ofNat 0) n lim a2 pl2 (km kd2) nm2 sg2 (Int32.ofNat 0) qm2 wd2 td2 (posn vs nn2 o2 wi tp2)) :: (181, mtl ts) :: [(182, ia nw), (187, lng nz), (202, ia nl2)])) rfl rfl rfl rfl hlen rfl rfl rfl ((h.2 H hlen).up (by omega)) rfl ?_
        refine bcF_ne rfl (by decide) ?_
        refine RT_step (pc2 := 10) rfl (fun _ _ => rfl) ?_
        refine ow_gf rfl rfl rfl hlen rfl ?_
        refine RT_step (pc2 := 14) rfl (fun _ _ => rfl) ?_
        exact g2 H _ hlen rfl rfl
theorem so_up13_110 {bs ts : List Int32} {vs : Nat → Value} {n lim : Nat} {P : Nat} {Dn : Nat} {lw : Int32} {cl : Int32} {id : Int32} {gl : Nat} {bo : Nat} {pn : List Int64} {ri : List Int32} {lf : List Int32} {wa : List Int32} {fo : List Int32} {dn : List Int64} {ha : List Int32} {pa : List Int32} {bl : List Int32} {nw : List Int32} {nz : List Int64} {kx x ky m wi kx2 ky2 : Nat} {Ax : List Value} (h : SO13_110 bs ts vs n lim P Dn lw cl id gl bo pn ri lf wa fo dn ha pa bl nw nz kx x Ax ky m wi) (h1 : kx ≤ kx2) (h2 : ky ≤ ky2) : SO13_110 bs ts vs n lim P Dn lw cl id gl bo pn ri lf wa fo dn ha pa bl nw nz kx2 x Ax ky2 m wi := by
  intro k a kd pl w le nu tk td fp nm sg qm wd o s nn tp ws sgl nbl nl t ho hnn htp sx ln
  rcases h k a kd pl w le nu tk td fp nm sg qm wd o s nn tp ws sgl nbl nl t ho hnn htp sx ln with ⟨T, M, o2, s2, nn2, tp2, ws2, sl2, nb2, nl2, f, sx2, g⟩ | ⟨k2, tk2, td2, T2, M2, o2, s2, nn2, tp2, ws2, sl2, nb2, nl2, c2, o1, o2b, on, tp2b, sx2, ln2, g⟩
  · exact Or.inl ⟨T, M, o2, s2, nn2, tp2, ws2, sl2, nb2, nl2, f, sx2, fun H hlen => (g.1 H hlen).up h1, fun H hlen => (g.2 H hlen).up h2⟩
  · exact Or.inr ⟨k2, tk2, td2, T2, M2, o2, s2, nn2, tp2, ws2, sl2, nb2, nl2, c2, o1, o2b, on, tp2b, sx2, ln2, fun H hlen => (g.1 H hlen).up h1, fun H hlen => (g.2 H hlen).up h2⟩
theorem so_all13_110 {B : Nat → Nat} {bs ts : List Int32} {vs : Nat → Value} {n lim : Nat} {P : Nat} {Dn : Nat} {lw : Int32} {cl : Int32} {id : Int32} {gl : Nat} {bo : Nat} {pn : List Int64} {ri : List Int32} {lf : List Int32} {wa : List Int32} {fo : List Int32} {dn : List Int64} {ha : List Int32} {pa : List Int32} {bl : List Int32} {nw : List Int32} {nz : List Int64} (hB : BY bs B) (hM : MY ts B) (hb : ∀ i, B i < 256) (hn : n ≤ 940) (hl : lim ≤ 940) (hP : P ≤ 7) (lp : pn.length = 7) (lz : nz.length = 15) (hv : nw[0]? = some (Int32.ofNat P)) (hN : ∀ i, i < P → ∃ ss, nok ss ∧ pn[i]? = some (p5 ss) ∧ nz[0 + i]? = some (p27 ss)) : ∀ (r wi : Nat), wi + r = 8 → SO13_110 bs ts vs n lim P Dn lw cl id gl bo pn ri lf wa fo dn ha pa bl nw nz (16 * r + 8) 145 [.ref 110, .ref 1, .ref 13, .int (Int32.ofNat (wi + 1))] (18 * r + 10) 266 wi := by
  intro r
  induction r with
  | zero => intro wi hi; exact so1_13_110 (KX := 0) (KY := 0) hB hM hb hn hl hP lp lz hv hN (by omega) (fun h => by omega) (fun h => by omega)
  | succ r ih =>
    intro wi hi
    have h1 := ih (wi + 1) (by omega)
    have h2 := rc13_110 hB hM hb hn hl (ra13_110 hB hM hb hn hl h1)
    refine so_up13_110 (so1_13_110 (KX := 16 * r + 16) (KY := 18 * r + 18) hB hM hb hn hl hP lp lz hv hN (by omega) (fun _ => so_up13_110 h2 (by omega) (by omega)) (fun _ => so_up13_110 h1 (by omega) (by omega))) (by omega) (by omega)
theorem raL13_115 {B : Nat → Nat} {bs ts : List Int32} {vs : Nat → Value} {n lim : Nat} {P : Nat} {Dn : Nat} {lw : Int32} {cl : Int32} {id : Int32} {gl : Nat} {bo : Nat} {pn : List Int64} {ri : List Int32} {lf : List Int32} {wa : List Int32} {fo : List Int32} {dn : List Int64} {ha : List Int32} {pa : List Int32} {bl : List Int32} {nw : List Int32} {nz : List Int64} (hB : BY bs B) (hM : MY ts B) (hb : ∀ i, B i < 256) (hn : n ≤ 940) (hl : lim ≤ 940) {wi KX KY : Nat} (hS : SO13_115 bs ts vs n lim P Dn lw cl id gl bo pn ri lf wa fo dn ha pa bl nw nz KX 145 [.ref 115, .ref 1, .ref 13, .int (Int32.ofNat (wi + 1))] KY 266 wi) : ∀ (r ii : Nat), ii + r = 20 → ∀ (k a kd pl w : Nat) (le : Int64) (nu tk td fp nm sg qm : Int32) (wd : Int64) (o s nn tp aa : Nat) (ws : List (Option Nat)) (sgl nbl nl : List Int32), TF k n a kd w le nu nm sg wd → ii + 1 ≤ o → o ≤ 20 → nn + 1 ≤ 2 * o → tp < 60 → aa < 60 → SX s ws sgl nbl → nl.length = 240 → (∃ (T M : AE) (o2 s2 nn2 tp2 : Nat) (ws2 : List (Option Nat)) (sl2 nb2 nl2 : List Int32), FC n lim (posn vs nn2 o2 wi tp2) T M ∧ SX s2 ws2 sl2 nb2 ∧ (∀ (H : List AE) (L : List (Nat × Value)), Nat.ble 204 H.length = true → ev_g L 0 = some (.ref 115) → ev_g L 1 = some (.ref 1) → ev_g L 2 = some (.ref 13) → ev_g L 3 = some (.int (Int32.ofNat (wi + 1))) → ev_g L 4 = some (.int (Int32.ofNat 1)) → ev_g L 5 = some (.int (Int32.ofNat ii)) → RT MM (KX + 3) 141 12 L [] (ov H ((1, tcl n lim a kd pl w le nu tk (Int32.ofNat 0) fp) :: (2, bcl bs) :: [(13, dcl13 P Dn lw cl id gl bo), (14, lng pn), (15, ia ri), (16, ia lf), (17, ia wa), (18, ia fo), (19, lng dn), (20, ia ha), (21, ia pa), (22, ia bl), (115, .inr (7, [.int (Int32.ofNat o), .int (Int32.ofNat s), .ref 116, .ref 117, .ref 118, .ref 119])), (116, wrd ws), (117, ia sgl), (118, ia nbl)])) (some (.int (Int32.ofNat 0)), ov H ((1, T) :: (2, bcl bs) :: [(13, dcl13 P Dn lw cl id gl bo), (14, lng pn), (15, ia ri), (16, ia lf), (17, ia wa), (18, ia fo), (19, lng dn), (20, ia ha), (21, ia pa), (22, ia bl), (115, .inr (7, [.int (Int32.ofNat o2), .int (Int32.ofNat s2), .ref 116, .ref 117, .ref 118, .ref 119])), (116, wrd ws2), (117, ia sl2), (118, ia nb2)]))) ∧ (∀ (H : List AE) (L : List (Nat × Value)), Nat.ble 204 H.length = true → ev_g L 0 = some (.ref 180) → ev_g L 1 = some (.int (Int32.ofNat aa)) → RT MM (KY + 3) 245 14 L [] (ov H ((180, mcl (Int32.ofNat 0) (Int32.ofNat 0) n lim a pl (km kd) nm sg (Int32.ofNat 0) qm wd td (posn vs nn o wi tp)) :: (181, mtl ts) :: [(182, ia nw), (187, lng nz), (202, ia nl)])) (some (.int (Int32.ofNat 0)), ov H ((180, M) :: (181, mtl ts) :: [(182, ia nw), (187, lng nz), (202, ia nl2)])))) ∨ (∃ (k2 : Nat) (tk2 td2 : Int32) (T M : AE) (o2 s2 nn2 tp2 : Nat) (ws2 : List (Option Nat)) (sl2 nb2 nl2 : List Int32), TC n lim (posn vs nn2 o2 wi tp2) k2 tk2 td2 T M ∧ o ≤ o2 ∧ o2 ≤ 20 ∧ nn2 + 2 * o ≤ nn + 2 * o2 ∧ tp2 < 60 ∧ SX s2 ws2 sl2 nb2 ∧ nl2.length = 240 ∧ (∀ (H : List AE) (L : List (Nat × Value)), Nat.ble 204 H.length = true → ev_g L 0 = some (.ref 115) → ev_g L 1 = some (.ref 1) → ev_g L 2 = some (.ref 13) → ev_g L 3 = some (.int (Int32.ofNat (wi + 1))) → ev_g L 4 = some (.int (Int32.ofNat 1)) → ev_g L 5 = some (.int (Int32.ofNat ii)) → RT MM (KX + 3) 141 12 L [] (ov H ((1, tcl n lim a kd pl w le nu tk (Int32.ofNat 0) fp) :: (2, bcl bs) :: [(13, dcl13 P Dn lw cl id gl bo), (14, lng pn), (15, ia ri), (16, ia lf), (17, ia wa), (18, ia fo), (19, lng dn), (20, ia ha), (21, ia pa), (22, ia bl), (115, .inr (7, [.int (Int32.ofNat o), .int (Int32.ofNat s), .ref 116, .ref 117, .ref 118, .ref 119])), (116, wrd ws), (117, ia sgl), (118, ia nbl)])) (some (.int (Int32.ofNat 1)), ov H ((1, T) :: (2, bcl bs) :: [(13, dcl13 P Dn lw cl id gl bo), (14, lng pn), (15, ia ri), (16, ia lf), (17, ia wa), (18, ia fo), (19, lng dn), (20, ia ha), (21, ia pa), (22, ia bl), (115, .inr (7, [.int (Int32.ofNat o2), .int (Int32.ofNat s2), .ref 116, .ref 117, .ref 118, .ref 119])), (116, wrd ws2), (117, ia sl2), (118, ia nb2)]))) ∧ (∀ (H : List AE) (L : List (Nat × Value)), Nat.ble 204 H.length = true → ev_g L 0 = some (.ref 180) → ev_g L 1 = some (.int (Int32.ofNat aa)) → RT MM (KY + 3) 245 14 L [] (ov H ((180, mcl (Int32.ofNat 0) (Int32.ofNat 0) n lim a pl (km kd) nm sg (Int32.ofNat 0) qm wd td (posn vs nn o wi tp)) :: (181, mtl ts) :: [(182, ia nw), (187, lng nz), (202, ia nl)])) (some (.int (Int32.ofNat 1)), ov H ((180, M) :: (181, mtl ts) :: [(182, ia nw), (187, lng nz), (202, ia nl2)])))) := by
  intro r
  induction r with
  | zero => intro ii hi k a kd pl w le nu tk td fp nm sg qm wd o s nn tp aa ws sgl nbl nl t h1 h2; omega
  | succ r ih =>
    intro ii hi k a kd pl w le nu tk td fp nm sg qm wd o s nn tp aa ws sgl nbl nl t h1 ho hnn htp haa sx ln
    have hk := (km_is kd t.2.2.2.1).2.2.2.2.2
    have hw := t.2.2.2.2.1
    have iw := w_is t (show 18 < 30 by decide)
    by_cases c : w = 21
    · have iw : isW (km kd) wd 18 = true := by rw [iw]; exact decide_eq_true c
      have hk1 := w_k1 t (by omega)
      obtain ⟨T1, M1, c1, x1, m1⟩ := s_adv hB hM hb hn hl (po := (posn vs nn o wi tp)) (pl := pl) (tk := tk) (td := td) (fp := fp) (plM := qm) t (by omega) (by omega)
      obtain ⟨a1, kd1, pl1, w1, le1, nu1, fp1, nm1, sg1, qm1, wd1, rfl, rfl, t1⟩ := c1
      rcases hS _ a1 kd1 pl1 w1 le1 nu1 tk td fp1 nm1 sg1 qm1 wd1 o s nn tp ws sgl nbl nl t1 ho (by omega) htp sx ln with ⟨T, M, o2, s2, nn2, tp2, ws2, sl2, nb2, nl2, f, sx2, h⟩ | ⟨k2, tk2, td2, T2, M2, o2, s2, nn2, tp2, ws2, sl2, nb2, nl2, c2, o1, o2b, on, tp2b, sx2, ln2, h⟩
      · obtain ⟨s3, ws3, sl3, nb3, sx3, hadd⟩ := sx_add115 sx2 (w := 21) (by decide) (Int32.ofNat 0) (Int32.ofNat 0)
        have f0 := f
        obtain ⟨a9, kd9, pl9, w9, le9, nu9, tk9, kk9, am9, fm9, kM9, nm9, sg9, fa9, qm9, wd9, td9, rfl, rfl, f9⟩ := f
        refine Or.inl ⟨tcl n lim a9 kd9 pl9 w9 le9 nu9 tk9 (Int32.ofNat kk9) (Int32.ofNat pl9), mcl (Int32.ofNat 0) (Int32.ofNat 0) n lim am9 fm9 kM9 nm9 sg9 fa9 qm9 wd9 td9 (posn vs nn2 o2 wi tp2), o2, s3, nn2, tp2, ws3, sl3, nb3, nl2, f0, sx3, fun H L hlen l0 l1 l2 l3 l4 l5 => ?_, fun H L hlen l0 l1 => ?_⟩
        · refine rt_il2 rfl l5 ?_
          refine rt_bip rfl k8_20 ?_
          refine biF_ge rfl (n_nle (by omega) (by decide)) ?_
          refine rt_il2 rfl l4 ?_
          refine bcF_eq rfl (by decide) ?_
          refine rt_ald rfl l1 ?_
          refine ow_gf rfl rfl rfl hlen rfl ?_
          refine RT_step (pc2 := 31) rfl (fun _ _ => rfl) ?_
          refine rt_acN rfl (by omega) (by omega) ?_
          refine RT_if c ?_
          refine rt_ald rfl l1 ?_
          refine ow_iv0 (l2 := ((1, tcl n lim a1 kd1 pl1 w1 le1 nu1 tk (Int32.ofNat 0) fp1) :: (2, bcl bs) :: [(13, dcl13 P Dn lw cl id gl bo), (14, lng pn), (15, ia ri), (16, ia lf), (17, ia wa), (18, ia fo), (19, lng dn), (20, ia ha), (21, ia pa), (22, ia bl), (115, .inr (7, [.int (Int32.ofNat o), .int (Int32.ofNat s), .ref 116, .ref 117, .ref 118, .ref 119])), (116, wrd ws), (117, ia sgl), (118, ia nbl)])) rfl rfl rfl rfl hlen rfl rfl rfl ((x1 _ (ov_hl hlen) (ov_at rfl (ov_lt hlen (by decide))) (ov_at rfl (ov_lt hlen (by decide)))).up (by omega)) rfl ?_
          refine rt_ald rfl l0 ?_
          refine rt_ald rfl l1 ?_
          refine rt_ald rfl l2 ?_
          refine rt_ild rfl l3 ?_
          refine ow_iv1 (l2 := ((1, tcl n lim a9 kd9 pl9 w9 le9 nu9 tk9 (Int32.ofNat kk9) (Int32.ofNat pl9)) :: (2, bcl bs) :: [(13, dcl13 P Dn lw cl id gl bo), (14, lng pn), (15, ia ri), (16, ia lf), (17, ia wa), (18, ia fo), (19, lng dn), (20, ia ha), (21, ia pa), (22, ia bl), (115, .inr (7, [.int (Int32.ofNat o2), .int (Int32.ofNat s2), .ref 116, .ref 117, .ref 118, .ref 119])), (116, wrd ws2), (117, ia sl2), (118, ia nb2)])) rfl rfl rfl rfl hlen rfl rfl rfl ((h.1 H hlen).up (by omega)) rfl ?_
          refine rt_is2 rfl (by decide +kernel) ?_
          refine rt_ald rfl (gs_o rfl l0 rfl) ?_
          refine RT_step (pc2 := 51) rfl (fun _ _ => rfl) ?_
          refine rt_ico rfl ki_0 ?_
          refine rt_ico rfl ki_0 ?_
          refine ow_iv0 (l2 := ((1, tcl n lim a9 kd9 pl9 w9 le9 nu9 tk9 (Int32.ofNat kk9) (Int32.ofNat pl9)) :: (2, bcl bs) :: [(13, dcl13 P Dn lw cl id gl bo), (14, lng pn), (15, ia ri), (16, ia lf), (17, ia wa), (18, ia fo), (19, lng dn), (20, ia ha), (21, ia pa), (22, ia bl), (115, .inr (7, [.int (Int32.ofNat o2), .int (Int32.ofNat s3), .ref 116, .ref 117, .ref 118, .ref 119])), (116, wrd ws3), (117, ia sl3), (118, ia nb3)])) rfl rfl rfl rfl hlen rfl rfl rfl ((hadd _ _ (ov_hl hlen) (ov_at rfl (ov_lt hlen (by decide))) (ov_at rfl (ov_lt hlen (by decide))) (ov_at rfl (ov_lt hlen (by decide))) (ov_at rfl (ov_lt hlen (by decide)))).up (by omega)) rfl ?_
          refine rt_inc rfl (gs_o rfl l5 rfl) (by decide +kernel) ?_
          rw [in_1]
          refine RT_step (pc2 := 12) rfl (fun _ _ => rfl) ?_
          by_cases c9 : ii + 1 < 20
          · refine rt_il2 rfl gs_n ?_
            refine rt_bip rfl k8_20 ?_
            refine biF_ge rfl (n_nle (by omega) (by omega)) ?_
            refine rt_il2 rfl (gs_o rfl gs_n rfl) ?_
            refine bcT_eq rfl rfl ?_
            refine rt_il2 rfl (gs_o rfl gs_n rfl) ?_
            exact ow_irt rfl rfl rfl
          · refine rt_il2 rfl gs_n ?_
            refine rt_bip rfl k8_20 ?_
            refine biT_ge rfl (n_le (by omega) (by omega)) ?_
            refine rt_il2 rfl (gs_o rfl gs_n rfl) ?_
            exact ow_irt rfl rfl rfl
        · refine rt_ald rfl l0 ?_
          refine rt_bip rfl k8_18 ?_
          refine ow_iv1 (l2 := ((180, mcl (Int32.ofNat 0) (Int32.ofNat 0) n lim a pl (km kd) nm sg (Int32.ofNat 0) qm wd td (posn vs nn o wi tp)) :: (181, mtl ts) :: [(182, ia nw), (187, lng nz), (202, ia nl)])) rfl rfl rfl rfl hlen rfl rfl rfl ((m_isWord (k := 18) (ov_hl hlen) (ov_at rfl (ov_lt hlen (by decide))) hk (by decide)).up (by omega)) rfl ?_
          refine bcF_eq rfl (b01_t iw) ?_
          refine rt_ald rfl l0 ?_
          refine ow_iv0 (l2 := ((180, mcl (Int32.ofNat 0) (Int32.ofNat 0) n lim a1 pl1 (km kd1) nm1 sg1 (Int32.ofNat 0) qm1 wd1 td (posn vs nn o wi tp)) :: (181, mtl ts) :: [(182, ia nw), (187, lng nz), (202, ia nl)])) rfl rfl rfl rfl hlen rfl rfl rfl ((m1 _ (ov_hl hlen) (ov_at rfl (ov_lt hlen (by decide))) (ov_at rfl (ov_lt hlen (by decide)))).up (by omega)) rfl ?_
          refine rt_ald rfl l0 ?_
          refine ow_iv1 (l2 := ((180, mcl (Int32.ofNat 0) (Int32.ofNat 0) n lim am9 fm9 kM9 nm9 sg9 fa9 qm9 wd9 td9 (posn vs nn2 o2 wi tp2)) :: (181, mtl ts) :: [(182, ia nw), (187, lng nz), (202, ia nl2)])) rfl rfl rfl rfl hlen rfl rfl rfl ((h.2 H hlen).up (by omega)) rfl ?_
          refine bcT_ne rfl rfl ?_
          refine rt_ico rfl ki_0 ?_
          exact ow_irt rfl rfl rfl
      · obtain ⟨a2, kd2, pl2, w2, le2, nu2, fp2, nm2, sg2, qm2, wd2, rfl, rfl, t2⟩ := c2
        obtain ⟨s3, ws3, sl3, nb3, sx3, hadd⟩ := sx_add115 sx2 (w := 21) (by decide) (Int32.ofNat 0) (Int32.ofNat 0)
        have ln3 : ((((nl2.set (4 * nn2) (Int32.ofNat 2)).set (4 * nn2 + 1) (Int32.ofNat aa)).set (4 * nn2 + 2) (Int32.ofNat tp2)).set (4 * nn2 + 3) (Int32.ofNat 0)).length = 240 := by simp only [List.length_set]; exact ln2
        rcases ih (ii + 1) (by omega) k2 a2 kd2 pl2 w2 le2 nu2 tk2 td2 fp2 nm2 sg2 qm2 wd2 o2 s3 (nn2 + 1) tp2 nn2 ws3 sl3 nb3 ((((nl2.set (4 * nn2) (Int32.ofNat 2)).set (4 * nn2 + 1) (Int32.ofNat aa)).set (4 * nn2 + 2) (Int32.ofNat tp2)).set (4 * nn2 + 3) (Int32.ofNat 0)) t2 (by omega) o2b (by omega) tp2b (by omega) sx3 ln3 with ⟨T, M, o4, s4, nn4, tp4, ws4, sg4, nb4, nl4, f, sx4, g1, g2⟩ | ⟨k4, tk4, td4, T4, M4, o4, s4, nn4, tp4, ws4, sg4, nb4, nl4, c4, q1, q2, q3, q4, sx4, ln4, g1, g2⟩
        · refine Or.inl ⟨T, M, o4, s4, nn4, tp4, ws4, sg4, nb4, nl4, f, sx4, fun H L hlen l0 l1 l2 l3 l4 l5 => ?_, fun H L hlen l0 l1 => ?_⟩
          · refine rt_il2 rfl l5 ?_
            refine rt_bip rfl k8_20 ?_
            refine biF_ge rfl (n_nle (by omega) (by decide)) ?_
            refine rt_il2 rfl l4 ?_
            refine bcF_eq rfl (by decide) ?_
            refine rt_ald rfl l1 ?_
            refine ow_gf rfl rfl rfl hlen rfl ?_
            refine RT_step (pc2 := 31) rfl (fun _ _ => rfl) ?_
            refine rt_acN rfl (by omega) (by omega) ?_
            refine RT_if c ?_
            refine rt_ald rfl l1 ?_
            refine ow_iv0 (l2 := ((1, tcl n lim a1 kd1 pl1 w1 le1 nu1 tk (Int32.ofNat 0) fp1) :: (2, bcl bs) :: [(13, dcl13 P Dn lw cl id gl bo), (14, lng pn), (15, ia ri), (16, ia lf), (17, ia wa), (18, ia fo), (19, lng dn), (20, ia ha), (21, ia pa), (22, ia bl), (115, .inr (7, [.int (Int32.ofNat o), .int (Int32.ofNat s), .ref 116, .ref 117, .ref 118, .ref 119])), (116, wrd ws), (117, ia sgl), (118, ia nbl)])) rfl rfl rfl rfl hlen rfl rfl rfl ((x1 _ (ov_hl hlen) (ov_at rfl (ov_lt hlen (by decide))) (ov_at rfl (ov_lt hlen (by decide)))).up (by omega)) rfl ?_
            refine rt_ald rfl l0 ?_
            refine rt_ald rfl l1 ?_
            refine rt_ald rfl l2 ?_
            refine rt_ild rfl l3 ?_
            refine ow_iv1 (l2 := ((1, tcl n lim a2 kd2 pl2 w2 le2 nu2 tk2 (Int32.ofNat 0) fp2) :: (2, bcl bs) :: [(13, dcl13 P Dn lw cl id gl bo), (14, lng pn), (15, ia ri), (16, ia lf), (17, ia wa), (18, ia fo), (19, lng dn), (20, ia ha), (21, ia pa), (22, ia bl), (115, .inr (7, [.int (Int32.ofNat o2), .int (Int32.ofNat s2), .ref 116, .ref 117, .ref 118, .ref 119])), (116, wrd ws2), (117, ia sl2), (118, ia nb2)])) rfl rfl rfl rfl hlen rfl rfl rfl ((h.1 H hlen).up (by omega)) rfl ?_
            refine rt_is2 rfl (by decide +kernel) ?_
            refine rt_ald rfl (gs_o rfl l0 rfl) ?_
            refine RT_step (pc2 := 51) rfl (fun _ _ => rfl) ?_
            refine rt_ico rfl ki_0 ?_
            refine rt_ico rfl ki_0 ?_
            refine ow_iv0 (l2 := ((1, tcl n lim a2 kd2 pl2 w2 le2 nu2 tk2 (Int32.ofNat 0) fp2) :: (2, bcl bs) :: [(13, dcl13 P Dn lw cl id gl bo), (14, lng pn), (15, ia ri), (16, ia lf), (17, ia wa), (18, ia fo), (19, lng dn), (20, ia ha), (21, ia pa), (22, ia bl), (115, .inr (7, [.int (Int32.ofNat o2), .int (Int32.ofNat s3), .ref 116, .ref 117, .ref 118, .ref 119])), (116, wrd ws3), (117, ia sl3), (118, ia nb3)])) rfl rfl rfl rfl hlen rfl rfl rfl ((hadd _ _ (ov_hl hlen) (ov_at rfl (ov_lt hlen (by decide))) (ov_at rfl (ov_lt hlen (by decide))) (ov_at rfl (ov_lt hlen (by decide))) (ov_at rfl (ov_lt hlen (by decide)))).up (by omega)) rfl ?_
            refine rt_inc rfl (gs_o rfl l5 rfl) (by decide +kernel) ?_
            rw [in_1]
            refine RT_step (pc2 := 12) rfl (fun _ _ => rfl) ?_
            exact g1 H _ hlen (gs_o rfl (gs_o rfl l0 rfl) rfl) (gs_o rfl (gs_o rfl l1 rfl) rfl) (gs_o rfl (gs_o rfl l2 rfl) rfl) (gs_o rfl (gs_o rfl l3 rfl) rfl) (gs_o rfl gs_n rfl) gs_n
          · refine rt_ald rfl l0 ?_
            refine rt_bip rfl k8_18 ?_
            refine ow_iv1 (l2 := ((180, mcl (Int32.ofNat 0) (Int32.ofNat 0) n lim a pl (km kd) nm sg (Int32.ofNat 0) qm wd td (posn vs nn o wi tp)) :: (181, mtl ts) :: [(182, ia nw), (187, lng nz), (202, ia nl)])) rfl rfl rfl rfl hlen rfl rfl rfl ((m_isWord (k := 18) (ov_hl hlen) (ov_at rfl (ov_lt hlen (by decide))) hk (by decide)).up (by omega)) rfl ?_
            refine bcF_eq rfl (b01_t iw) ?_
            refine rt_ald rfl l0 ?_
            refine ow_iv0 (l2 := ((180, mcl (Int32.ofNat 0) (Int32.ofNat 0) n lim a1 pl1 (km kd1) nm1 sg1 (Int32.ofNat 0) qm1 wd1 td (posn vs nn o wi tp)) :: (181, mtl ts) :: [(182, ia nw), (187, lng nz), (202, ia nl)])) rfl rfl rfl rfl hlen rfl rfl rfl ((m1 _ (ov_hl hlen) (ov_at rfl (ov_lt hlen (by decide))) (ov_at rfl (ov_lt hlen (by decide)))).up (by omega)) rfl ?_
            refine rt_ald rfl l0 ?_
            refine ow_iv1 (l2 := ((180, mcl (Int32.ofNat 0) (Int32.ofNat 0) n lim a2 pl2 (km kd2) nm2 sg2 (Int32.ofNat 0) qm2 wd2 td2 (posn vs nn2 o2 wi tp2)) :: (181, mtl ts) :: [(182, ia nw), (187, lng nz), (202, ia nl2)])) rfl rfl rfl rfl hlen rfl rfl rfl ((h.2 H hlen).up (by omega)) rfl ?_
            refine bcF_ne rfl (by decide) ?_
            refine rt_ald rfl l0 ?_
            refine rt_ico rfl ki_2 ?_
            refine rt_ild rfl l1 ?_
            refine rt_ald rfl l0 ?_
            refine ow_gf rfl rfl rfl hlen rfl ?_
            refine rt_ico rfl ki_0 ?_
            refine ow_iv1 (l2 := ((180, mcl (Int32.ofNat 0) (Int32.ofNat 0) n lim a2 pl2 (km kd2) nm2 sg2 (Int32.ofNat 0) qm2 wd2 td2 (posn vs (nn2 + 1) o2 wi tp2)) :: (181, mtl ts) :: [(182, ia nw), (187, lng nz), (202, ia ((((nl2.set (4 * nn2) (Int32.ofNat 2)).set (4 * nn2 + 1) (Int32.ofNat aa)).set (4 * nn2 + 2) (Int32.ofNat tp2)).set (4 * nn2 + 3) (Int32.ofNat 0)))])) rfl rfl rfl rfl hlen rfl rfl rfl ((m_says (ov_hl hlen) (ov_at rfl (ov_lt hlen (by decide))) (ov_at rfl (ov_lt hlen (by decide))) ln2 (by omega)).up (by omega)) rfl ?_
            refine rt_ist rfl (by decide +kernel) ?_
            refine RT_step (pc2 := 14) rfl (fun _ _ => rfl) ?_
            exact g2 H _ hlen (gs_o rfl l0 rfl) gs_n
        · refine Or.inr ⟨k4, tk4, td4, T4, M4, o4, s4, nn4, tp4, ws4, sg4, nb4, nl4, c4, by omega, q2, by omega, q4, sx4, ln4, fun H L hlen l0 l1 l2 l3 l4 l5 => ?_, fun H L hlen l0 l1 => ?_⟩
          · refine rt_il2 rfl l5 ?_
            refine rt_bip rfl k8_20 ?_
            refine biF_ge rfl (n_nle (by omega) (by decide)) ?_
            refine rt_il2 rfl l4 ?_
            refine bcF_eq rfl (by decide) ?_
            refine rt_ald rfl l1 ?_
            refine ow_gf rfl rfl rfl hlen rfl ?_
            refine RT_step (pc2 := 31) rfl (fun _ _ => rfl) ?_
            refine rt_acN rfl (by omega) (by omega) ?_
            refine RT_if c ?_
            refine rt_ald rfl l1 ?_
            refine ow_iv0 (l2 := ((1, tcl n lim a1 kd1 pl1 w1 le1 nu1 tk (Int32.ofNat 0) fp1) :: (2, bcl bs) :: [(13, dcl13 P Dn lw cl id gl bo), (14, lng pn), (15, ia ri), (16, ia lf), (17, ia wa), (18, ia fo), (19, lng dn), (20, ia ha), (21, ia pa), (22, ia bl), (115, .inr (7, [.int (Int32.ofNat o), .int (Int32.ofNat s), .ref 116, .ref 117, .ref 118, .ref 119])), (116, wrd ws), (117, ia sgl), (118, ia nbl)])) rfl rfl rfl rfl hlen rfl rfl rfl ((x1 _ (ov_hl hlen) (ov_at rfl (ov_lt hlen (by decide))) (ov_at rfl (ov_lt hlen (by decide)))).up (by omega)) rfl ?_
            refine rt_ald rfl l0 ?_
            refine rt_ald rfl l1 ?_
            refine rt_ald rfl l2 ?_
            refine rt_ild rfl l3 ?_
            refine ow_iv1 (l2 := ((1, tcl n lim a2 kd2 pl2 w2 le2 nu2 tk2 (Int32.ofNat 0) fp2) :: (2, bcl bs) :: [(13, dcl13 P Dn lw cl id gl bo), (14, lng pn), (15, ia ri), (16, ia lf), (17, ia wa), (18, ia fo), (19, lng dn), (20, ia ha), (21, ia pa), (22, ia bl), (115, .inr (7, [.int (Int32.ofNat o2), .int (Int32.ofNat s2), .ref 116, .ref 117, .ref 118, .ref 119])), (116, wrd ws2), (117, ia sl2), (118, ia nb2)])) rfl rfl rfl rfl hlen rfl rfl rfl ((h.1 H hlen).up (by omega)) rfl ?_
            refine rt_is2 rfl (by decide +kernel) ?_
            refine rt_ald rfl (gs_o rfl l0 rfl) ?_
            refine RT_step (pc2 := 51) rfl (fun _ _ => rfl) ?_
            refine rt_ico rfl ki_0 ?_
            refine rt_ico rfl ki_0 ?_
            refine ow_iv0 (l2 := ((1, tcl n lim a2 kd2 pl2 w2 le2 nu2 tk2 (Int32.ofNat 0) fp2) :: (2, bcl bs) :: [(13, dcl13 P Dn lw cl id gl bo), (14, lng pn), (15, ia ri), (16, ia lf), (17, ia wa), (18, ia fo), (19, lng dn), (20, ia ha), (21, ia pa), (22, ia bl), (115, .inr (7, [.int (Int32.ofNat o2), .int (Int32.ofNat s3), .ref 116, .ref 117, .ref 118, .ref 119])), (116, wrd ws3), (117, ia sl3), (118, ia nb3)])) rfl rfl rfl rfl hlen rfl rfl rfl ((hadd _ _ (ov_hl hlen) (ov_at rfl (ov_lt hlen (by decide))) (ov_at rfl (ov_lt hlen (by decide))) (ov_at rfl (ov_lt hlen (by decide))) (ov_at rfl (ov_lt hlen (by decide)))).up (by omega)) rfl ?_
            refine rt_inc rfl (gs_o rfl l5 rfl) (by decide +kernel) ?_
            rw [in_1]
            refine RT_step (pc2 := 12) rfl (fun _ _ => rfl) ?_
            exact g1 H _ hlen (gs_o rfl (gs_o rfl l0 rfl) rfl) (gs_o rfl (gs_o rfl l1 rfl) rfl) (gs_o rfl (gs_o rfl l2 rfl) rfl) (gs_o rfl (gs_o rfl l3 rfl) rfl) (gs_o rfl gs_n rfl) gs_n
          · refine rt_ald rfl l0 ?_
            refine rt_bip rfl k8_18 ?_
            refine ow_iv1 (l2 := ((180, mcl (Int32.ofNat 0) (Int32.ofNat 0) n lim a pl (km kd) nm sg (Int32.ofNat 0) qm wd td (posn vs nn o wi tp)) :: (181, mtl ts) :: [(182, ia nw), (187, lng nz), (202, ia nl)])) rfl rfl rfl rfl hlen rfl rfl rfl ((m_isWord (k := 18) (ov_hl hlen) (ov_at rfl (ov_lt hlen (by decide))) hk (by decide)).up (by omega)) rfl ?_
            refine bcF_eq rfl (b01_t iw) ?_
            refine rt_ald rfl l0 ?_
            refine ow_iv0 (l2 := ((180, mcl (Int32.ofNat 0) (Int32.ofNat 0) n lim a1 pl1 (km kd1) nm1 sg1 (Int32.ofNat 0) qm1 wd1 td (posn vs nn o wi tp)) :: (181, mtl ts) :: [(182, ia nw), (187, lng nz), (202, ia nl)])) rfl rfl rfl rfl hlen rfl rfl rfl ((m1 _ (ov_hl hlen) (ov_at rfl (ov_lt hlen (by decide))) (ov_at rfl (ov_lt hlen (by decide)))).up (by omega)) rfl ?_
            refine rt_ald rfl l0 ?_
            refine ow_iv1 (l2 := ((180, mcl (Int32.ofNat 0) (Int32.ofNat 0) n lim a2 pl2 (km kd2) nm2 sg2 (Int32.ofNat 0) qm2 wd2 td2 (posn vs nn2 o2 wi tp2)) :: (181, mtl ts) :: [(182, ia nw), (187, lng nz), (202, ia nl2)])) rfl rfl rfl rfl hlen rfl rfl rfl ((h.2 H hlen).up (by omega)) rfl ?_
            refine bcF_ne rfl (by decide) ?_
            refine rt_ald rfl l0 ?_
            refine rt_ico rfl ki_2 ?_
            refine rt_ild rfl l1 ?_
            refine rt_ald rfl l0 ?_
            refine ow_gf rfl rfl rfl hlen rfl ?_
            refine rt_ico rfl ki_0 ?_
            refine ow_iv1 (l2 := ((180, mcl (Int32.ofNat 0) (Int32.ofNat 0) n lim a2 pl2 (km kd2) nm2 sg2 (Int32.ofNat 0) qm2 wd2 td2 (posn vs (nn2 + 1) o2 wi tp2)) :: (181, mtl ts) :: [(182, ia nw), (187, lng nz), (202, ia ((((nl2.set (4 * nn2) (Int32.ofNat 2)).set (4 * nn2 + 1) (Int32.ofNat aa)).set (4 * nn2 + 2) (Int32.ofNat tp2)).set (4 * nn2 + 3) (Int32.ofNat 0)))])) rfl rfl rfl rfl hlen rfl rfl rfl ((m_says (ov_hl hlen) (ov_at rfl (ov_lt hlen (by decide))) (ov_at rfl (ov_lt hlen (by decide))) ln2 (by omega)).up (by omega)) rfl ?_
            refine rt_ist rfl (by decide +kernel) ?_
            refine RT_step (pc2 := 14) rfl (fun _ _ => rfl) ?_
            exact g2 H _ hlen (gs_o rfl l0 rfl) gs_n
    · have iw : isW (km kd) wd 18 = false := by rw [iw]; exact decide_eq_false c
      refine Or.inr ⟨k, tk, td, tcl n lim a kd pl w le nu tk (Int32.ofNat 0) fp, mcl (Int32.ofNat 0) (Int32.ofNat 0) n lim a pl (km kd) nm sg (Int32.ofNat 0) qm wd td (posn vs nn o wi aa), o, s, nn, aa, ws, sgl, nbl, nl, tf_td t, by omega, ho, by omega, haa, sx, ln, fun H L hlen l0 l1 l2 l3 l4 l5 => ?_, fun H L hlen l0 l1 => ?_⟩
      · refine rt_il2 rfl l5 ?_
        refine rt_bip rfl k8_20 ?_
        refine biF_ge rfl (n_nle (by omega) (by decide)) ?_
        refine rt_il2 rfl l4 ?_
        refine bcF_eq rfl (by decide) ?_
        refine rt_ald rfl l1 ?_
        refine ow_gf rfl rfl rfl hlen rfl ?_
        refine RT_step (pc2 := 31) rfl (fun _ _ => rfl) ?_
        refine rt_acN rfl (by omega) (by omega) ?_
        refine RT_el c ?_
        refine rt_il2 rfl l4 ?_
        exact ow_irt rfl rfl rfl
      · refine rt_ald rfl l0 ?_
        refine rt_bip rfl k8_18 ?_
        refine ow_iv1 (l2 := ((180, mcl (Int32.ofNat 0) (Int32.ofNat 0) n lim a pl (km kd) nm sg (Int32.ofNat 0) qm wd td (posn vs nn o wi tp)) :: (181, mtl ts) :: [(182, ia nw), (187, lng nz), (202, ia nl)])) rfl rfl rfl rfl hlen rfl rfl rfl ((m_isWord (k := 18) (ov_hl hlen) (ov_at rfl (ov_lt hlen (by decide))) hk (by decide)).up (by omega)) rfl ?_
        refine bcT_eq rfl (b01_f iw) ?_
        refine rt_ald rfl l0 ?_
        refine rt_ild rfl l1 ?_
        refine ow_pf (l2 := ((180, mcl (Int32.ofNat 0) (Int32.ofNat 0) n lim a pl (km kd) nm sg (Int32.ofNat 0) qm wd td (posn vs nn o wi aa)) :: (181, mtl ts) :: [(182, ia nw), (187, lng nz), (202, ia nl)])) rfl rfl rfl rfl rfl hlen rfl rfl ?_
        refine rt_ico rfl ki_1 ?_
        exact ow_irt rfl rfl rfl
theorem ra13_115 {B : Nat → Nat} {bs ts : List Int32} {vs : Nat → Value} {n lim : Nat} {P : Nat} {Dn : Nat} {lw : Int32} {cl : Int32} {id : Int32} {gl : Nat} {bo : Nat} {pn : List Int64} {ri : List Int32} {lf : List Int32} {wa : List Int32} {fo : List Int32} {dn : List Int64} {ha : List Int32} {pa : List Int32} {bl : List Int32} {nw : List Int32} {nz : List Int64} (hB : BY bs B) (hM : MY ts B) (hb : ∀ i, B i < 256) (hn : n ≤ 940) (hl : lim ≤ 940) {wi KX KY : Nat} (hS : SO13_115 bs ts vs n lim P Dn lw cl id gl bo pn ri lf wa fo dn ha pa bl nw nz KX 145 [.ref 115, .ref 1, .ref 13, .int (Int32.ofNat (wi + 1))] KY 266 wi) : SO13_115 bs ts vs n lim P Dn lw cl id gl bo pn ri lf wa fo dn ha pa bl nw nz (KX + 4) 141 [.ref 115, .ref 1, .ref 13, .int (Int32.ofNat (wi + 1))] (KY + 4) 245 wi := by
  intro k a kd pl w le nu tk td fp nm sg qm wd o s nn tp ws sgl nbl nl t ho hnn htp sx ln
  rcases hS _ a kd pl w le nu tk td fp nm sg qm wd o s nn tp ws sgl nbl nl t ho hnn htp sx ln with ⟨T, M, o2, s2, nn2, tp2, ws2, sl2, nb2, nl2, f, sx2, h⟩ | ⟨k2, tk2, td2, T2, M2, o2, s2, nn2, tp2, ws2, sl2, nb2, nl2, c2, o1, o2b, on, tp2b, sx2, ln2, h⟩
  · refine Or.inl ⟨T, M, o2, s2, nn2, tp2, ws2, sl2, nb2, nl2, f, sx2, fun H hlen => ?_, fun H hlen => ?_⟩
    · refine FR_st2 (l2 := ((1, T) :: (2, bcl bs) :: [(13, dcl13 P Dn lw cl id gl bo), (14, lng pn), (15, ia ri), (16, ia lf), (17, ia wa), (18, ia fo), (19, lng dn), (20, ia ha), (21, ia pa), (22, ia bl), (115, .inr (7, [.int (Int32.ofNat o2), .int (Int32.ofNat s2), .ref 116, .ref 117, .ref 118, .ref 119])), (116, wrd ws2), (117, ia sl2), (118, ia nb2)])) rfl rfl rfl ?_
      refine RT_step (pc2 := 1) rfl (fun _ _ => rfl) ?_
      refine RT_step (pc2 := 2) rfl (fun _ _ => rfl) ?_
      refine RT_step (pc2 := 3) rfl (fun _ _ => rfl) ?_
      refine RT_step (pc2 := 4) rfl (fun _ _ => rfl) ?_
      refine ow_iv1 (l2 := ((1, T) :: (2, bcl bs) :: [(13, dcl13 P Dn lw cl id gl bo), (14, lng pn), (15, ia ri), (16, ia lf), (17, ia wa), (18, ia fo), (19, lng dn), (20, ia ha), (21, ia pa), (22, ia bl), (115, .inr (7, [.int (Int32.ofNat o2), .int (Int32.ofNat s2), .ref 116, .ref 117, .ref 118, .ref 119])), (116, wrd ws2), (117, ia sl2), (118, ia nb2)])) rfl rfl rfl rfl hlen rfl rfl rfl ((h.1 H hlen).up (by omega)) rfl ?_
      refine RT_step (pc2 := 9) rfl (fun _ _ => rfl) ?_
      refine rt_ico rfl ki_0 ?_
      refine RT_step (pc2 := 12) rfl (fun _ _ => rfl) ?_
      refine RT_step (pc2 := 14) rfl (fun _ _ => rfl) ?_
      refine rt_bip rfl k8_20 ?_
      refine biF_ge rfl (n_nle (by decide) (by decide)) ?_
      refine RT_step (pc2 := 21) rfl (fun _ _ => rfl) ?_
      refine bcT_eq rfl rfl ?_
      refine RT_step (pc2 := 64) rfl (fun _ _ => rfl) ?_
      exact ow_irt rfl rfl rfl
    · refine FR_st2 (l2 := ((180, M) :: (181, mtl ts) :: [(182, ia nw), (187, lng nz), (202, ia nl2)])) rfl rfl rfl ?_
      refine RT_step (pc2 := 1) rfl (fun _ _ => rfl) ?_
      refine ow_iv1 (l2 := ((180, M) :: (181, mtl ts) :: [(182, ia nw), (187, lng nz), (202, ia nl2)])) rfl rfl rfl rfl hlen rfl rfl rfl ((h.2 H hlen).up (by omega)) rfl ?_
      refine bcT_ne rfl rfl ?_
      refine rt_ico rfl ki_0 ?_
      exact ow_irt rfl rfl rfl
  · obtain ⟨a2, kd2, pl2, w2, le2, nu2, fp2, nm2, sg2, qm2, wd2, rfl, rfl, t2⟩ := c2
    rcases raL13_115 hB hM hb hn hl hS 20 0 rfl k2 a2 kd2 pl2 w2 le2 nu2 tk2 td2 fp2 nm2 sg2 qm2 wd2 o2 s2 nn2 tp2 tp2 ws2 sl2 nb2 nl2 t2 (by omega) o2b (by omega) tp2b tp2b sx2 ln2 with ⟨T, M, o4, s4, nn4, tp4, ws4, sg4, nb4, nl4, f, sx4, g1, g2⟩ | ⟨k4, tk4, td4, T4, M4, o4, s4, nn4, tp4, ws4, sg4, nb4, nl4, c4, q1, q2, q3, q4, sx4, ln4, g1, g2⟩
    · refine Or.inl ⟨T, M, o4, s4, nn4, tp4, ws4, sg4, nb4, nl4, f, sx4, fun H hlen => ?_, fun H hlen => ?_⟩
      · refine FR_st2 (l2 := ((1, T) :: (2, bcl bs) :: [(13, dcl13 P Dn lw cl id gl bo), (14, lng pn), (15, ia ri), (16, ia lf), (17, ia wa), (18, ia fo), (19, lng dn), (20, ia ha), (21, ia pa), (22, ia bl), (115, .inr (7, [.int (Int32.ofNat o4), .int (Int32.ofNat s4), .ref 116, .ref 117, .ref 118, .ref 119])), (116, wrd ws4), (117, ia sg4), (118, ia nb4)])) rfl rfl rfl ?_
        refine RT_step (pc2 := 1) rfl (fun _ _ => rfl) ?_
        refine RT_step (pc2 := 2) rfl (fun _ _ => rfl) ?_
        refine RT_step (pc2 := 3) rfl (fun _ _ => rfl) ?_
        refine RT_step (pc2 := 4) rfl (fun _ _ => rfl) ?_
        refine ow_iv1 (l2 := ((1, tcl n lim a2 kd2 pl2 w2 le2 nu2 tk2 (Int32.ofNat 0) fp2) :: (2, bcl bs) :: [(13, dcl13 P Dn lw cl id gl bo), (14, lng pn), (15, ia ri), (16, ia lf), (17, ia wa), (18, ia fo), (19, lng dn), (20, ia ha), (21, ia pa), (22, ia bl), (115, .inr (7, [.int (Int32.ofNat o2), .int (Int32.ofNat s2), .ref 116, .ref 117, .ref 118, .ref 119])), (116, wrd ws2), (117, ia sl2), (118, ia nb2)])) rfl rfl rfl rfl hlen rfl rfl rfl ((h.1 H hlen).up (by omega)) rfl ?_
        refine RT_step (pc2 := 9) rfl (fun _ _ => rfl) ?_
        refine rt_ico rfl ki_0 ?_
        refine RT_step (pc2 := 12) rfl (fun _ _ => rfl) ?_
        exact g1 H _ hlen rfl rfl rfl rfl rfl rfl
      · refine FR_st2 (l2 := ((180, M) :: (181, mtl ts) :: [(182, ia nw), (187, lng nz), (202, ia nl4)])) rfl rfl rfl ?_
        refine RT_step (pc2 := 1) rfl (fun _ _ => rfl) ?_
        refine ow_iv1 (l2 := ((180, mcl (Int32.ofNat 0) (Int32.ofNat 0) n lim a2 pl2 (km kd2) nm2 sg2 (Int32.ofNat 0) qm2 wd2 td2 (posn vs nn2 o2 wi tp2)) :: (181, mtl ts) :: [(182, ia nw), (187, lng nz), (202, ia nl2)])) rfl rfl rfl rfl hlen rfl rfl rfl ((h.2 H hlen).up (by omega)) rfl ?_
        refine bcF_ne rfl (by decide) ?_
        refine RT_step (pc2 := 10) rfl (fun _ _ => rfl) ?_
        refine ow_gf rfl rfl rfl hlen rfl ?_
        refine RT_step (pc2 := 14) rfl (fun _ _ => rfl) ?_
        exact g2 H _ hlen rfl rfl
    · refine Or.inr ⟨k4, tk4, td4, T4, M4, o4, s4, nn4, tp4, ws4, sg4, nb4, nl4, c4, by omega, q2, by omega, q4, sx4, ln4, fun H hlen => ?_, fun H hlen => ?_⟩
      · refine FR_st2 (l2 := ((1, T4) :: (2, bcl bs) :: [(13, dcl13 P Dn lw cl id gl bo), (14, lng pn), (15, ia ri), (16, ia lf), (17, ia wa), (18, ia fo), (19, lng dn), (20, ia ha), (21, ia pa), (22, ia bl), (115, .inr (7, [.int (Int32.ofNat o4), .int (Int32.ofNat s4), .ref 116, .ref 117, .ref 118, .ref 119])), (116, wrd ws4), (117, ia sg4), (118, ia nb4)])) rfl rfl rfl ?_
        refine RT_step (pc2 := 1) rfl (fun _ _ => rfl) ?_
        refine RT_step (pc2 := 2) rfl (fun _ _ => rfl) ?_
        refine RT_step (pc2 := 3) rfl (fun _ _ => rfl) ?_
        refine RT_step (pc2 := 4) rfl (fun _ _ => rfl) ?_
        refine ow_iv1 (l2 := ((1, tcl n lim a2 kd2 pl2 w2 le2 nu2 tk2 (Int32.ofNat 0) fp2) :: (2, bcl bs) :: [(13, dcl13 P Dn lw cl id gl bo), (14, lng pn), (15, ia ri), (16, ia lf), (17, ia wa), (18, ia fo), (19, lng dn), (20, ia ha), (21, ia pa), (22, ia bl), (115, .inr (7, [.int (Int32.ofNat o2), .int (Int32.ofNat s2), .ref 116, .ref 117, .ref 118, .ref 119])), (116, wrd ws2), (117, ia sl2), (118, ia nb2)])) rfl rfl rfl rfl hlen rfl rfl rfl ((h.1 H hlen).up (by omega)) rfl ?_
        refine RT_step (pc2 := 9) rfl (fun _ _ => rfl) ?_
        refine rt_ico rfl ki_0 ?_
        refine RT_step (pc2 := 12) rfl (fun _ _ => rfl) ?_
        exact g1 H _ hlen rfl rfl rfl rfl rfl rfl
      · refine FR_st2 (l2 := ((180, M4) :: (181, mtl ts) :: [(182, ia nw), (187, lng nz), (202, ia nl4)])) rfl rfl rfl ?_
        refine RT_step (pc2 := 1) rfl (fun _ _ => rfl) ?_
        refine ow_iv1 (l2 := ((180, mcl (Int32.ofNat 0) (Int32.ofNat 0) n lim a2 pl2 (km kd2) nm2 sg2 (Int32.ofNat 0) qm2 wd2 td2 (posn vs nn2 o2 wi tp2)) :: (181, mtl ts) :: [(182, ia nw), (187, lng nz), (202, ia nl2)])) rfl rfl rfl rfl hlen rfl rfl rfl ((h.2 H hlen).up (by omega)) rfl ?_
        refine bcF_ne rfl (by decide) ?_
        refine RT_step (pc2 := 10) rfl (fun _ _ => rfl) ?_
        refine ow_gf rfl rfl rfl hlen rfl ?_
        refine RT_step (pc2 := 14) rfl (fun _ _ => rfl) ?_
        exact g2 H _ hlen rfl rfl
theorem rcL13_115 {B : Nat → Nat} {bs ts : List Int32} {vs : Nat → Value} {n lim : Nat} {P : Nat} {Dn : Nat} {lw : Int32} {cl : Int32} {id : Int32} {gl : Nat} {bo : Nat} {pn : List Int64} {ri : List Int32} {lf : List Int32} {wa : List Int32} {fo : List Int32} {dn : List Int64} {ha : List Int32} {pa : List Int32} {bl : List Int32} {nw : List Int32} {nz : List Int64} (hB : BY bs B) (hM : MY ts B) (hb : ∀ i, B i < 256) (hn : n ≤ 940) (hl : lim ≤ 940) {wi KX KY : Nat} (hS : SO13_115 bs ts vs n lim P Dn lw cl id gl bo pn ri lf wa fo dn ha pa bl nw nz KX 141 [.ref 115, .ref 1, .ref 13, .int (Int32.ofNat (wi + 1))] KY 245 wi) : ∀ (r ii : Nat), ii + r = 20 → ∀ (k a kd pl w : Nat) (le : Int64) (nu tk td fp nm sg qm : Int32) (wd : Int64) (o s nn tp aa : Nat) (ws : List (Option Nat)) (sgl nbl nl : List Int32), TF k n a kd w le nu nm sg wd → ii + 1 ≤ o → o ≤ 20 → nn + 1 ≤ 2 * o → tp < 60 → aa < 60 → SX s ws sgl nbl → nl.length = 240 → (∃ (T M : AE) (o2 s2 nn2 tp2 : Nat) (ws2 : List (Option Nat)) (sl2 nb2 nl2 : List Int32), FC n lim (posn vs nn2 o2 wi tp2) T M ∧ SX s2 ws2 sl2 nb2 ∧ (∀ (H : List AE) (L : List (Nat × Value)), Nat.ble 204 H.length = true → ev_g L 0 = some (.ref 115) → ev_g L 1 = some (.ref 1) → ev_g L 2 = some (.ref 13) → ev_g L 3 = some (.int (Int32.ofNat (wi + 1))) → ev_g L 4 = some (.int (Int32.ofNat 1)) → ev_g L 5 = some (.int (Int32.ofNat ii)) → RT MM (KX + 3) 142 12 L [] (ov H ((1, tcl n lim a kd pl w le nu tk (Int32.ofNat 0) fp) :: (2, bcl bs) :: [(13, dcl13 P Dn lw cl id gl bo), (14, lng pn), (15, ia ri), (16, ia lf), (17, ia wa), (18, ia fo), (19, lng dn), (20, ia ha), (21, ia pa), (22, ia bl), (115, .inr (7, [.int (Int32.ofNat o), .int (Int32.ofNat s), .ref 116, .ref 117, .ref 118, .ref 119])), (116, wrd ws), (117, ia sgl), (118, ia nbl)])) (some (.int (Int32.ofNat 0)), ov H ((1, T) :: (2, bcl bs) :: [(13, dcl13 P Dn lw cl id gl bo), (14, lng pn), (15, ia ri), (16, ia lf), (17, ia wa), (18, ia fo), (19, lng dn), (20, ia ha), (21, ia pa), (22, ia bl), (115, .inr (7, [.int (Int32.ofNat o2), .int (Int32.ofNat s2), .ref 116, .ref 117, .ref 118, .ref 119])), (116, wrd ws2), (117, ia sl2), (118, ia nb2)]))) ∧ (∀ (H : List AE) (L : List (Nat × Value)), Nat.ble 204 H.length = true → ev_g L 0 = some (.ref 180) → ev_g L 1 = some (.int (Int32.ofNat aa)) → RT MM (KY + 3) 263 14 L [] (ov H ((180, mcl (Int32.ofNat 0) (Int32.ofNat 0) n lim a pl (km kd) nm sg (Int32.ofNat 0) qm wd td (posn vs nn o wi tp)) :: (181, mtl ts) :: [(182, ia nw), (187, lng nz), (202, ia nl)])) (some (.int (Int32.ofNat 0)), ov H ((180, M) :: (181, mtl ts) :: [(182, ia nw), (187, lng nz), (202, ia nl2)])))) ∨ (∃ (k2 : Nat) (tk2 td2 : Int32) (T M : AE) (o2 s2 nn2 tp2 : Nat) (ws2 : List (Option Nat)) (sl2 nb2 nl2 : List Int32), TC n lim (posn vs nn2 o2 wi tp2) k2 tk2 td2 T M ∧ o ≤ o2 ∧ o2 ≤ 20 ∧ nn2 + 2 * o ≤ nn + 2 * o2 ∧ tp2 < 60 ∧ SX s2 ws2 sl2 nb2 ∧ nl2.length = 240 ∧ (∀ (H : List AE) (L : List (Nat × Value)), Nat.ble 204 H.length = true → ev_g L 0 = some (.ref 115) → ev_g L 1 = some (.ref 1) → ev_g L 2 = some (.ref 13) → ev_g L 3 = some (.int (Int32.ofNat (wi + 1))) → ev_g L 4 = some (.int (Int32.ofNat 1)) → ev_g L 5 = some (.int (Int32.ofNat ii)) → RT MM (KX + 3) 142 12 L [] (ov H ((1, tcl n lim a kd pl w le nu tk (Int32.ofNat 0) fp) :: (2, bcl bs) :: [(13, dcl13 P Dn lw cl id gl bo), (14, lng pn), (15, ia ri), (16, ia lf), (17, ia wa), (18, ia fo), (19, lng dn), (20, ia ha), (21, ia pa), (22, ia bl), (115, .inr (7, [.int (Int32.ofNat o), .int (Int32.ofNat s), .ref 116, .ref 117, .ref 118, .ref 119])), (116, wrd ws), (117, ia sgl), (118, ia nbl)])) (some (.int (Int32.ofNat 1)), ov H ((1, T) :: (2, bcl bs) :: [(13, dcl13 P Dn lw cl id gl bo), (14, lng pn), (15, ia ri), (16, ia lf), (17, ia wa), (18, ia fo), (19, lng dn), (20, ia ha), (21, ia pa), (22, ia bl), (115, .inr (7, [.int (Int32.ofNat o2), .int (Int32.ofNat s2), .ref 116, .ref 117, .ref 118, .ref 119])), (116, wrd ws2), (117, ia sl2), (118, ia nb2)]))) ∧ (∀ (H : List AE) (L : List (Nat × Value)), Nat.ble 204 H.length = true → ev_g L 0 = some (.ref 180) → ev_g L 1 = some (.int (Int32.ofNat aa)) → RT MM (KY + 3) 263 14 L [] (ov H ((180, mcl (Int32.ofNat 0) (Int32.ofNat 0) n lim a pl (km kd) nm sg (Int32.ofNat 0) qm wd td (posn vs nn o wi tp)) :: (181, mtl ts) :: [(182, ia nw), (187, lng nz), (202, ia nl)])) (some (.int (Int32.ofNat 1)), ov H ((180, M) :: (181, mtl ts) :: [(182, ia nw), (187, lng nz), (202, ia nl2)])))) := by
  intro r
  induction r with
  | zero => intro ii hi k a kd pl w le nu tk td fp nm sg qm wd o s nn tp aa ws sgl nbl nl t h1 h2; omega
  | succ r ih =>
    intro ii hi k a kd pl w le nu tk td fp nm sg qm wd o s nn tp aa ws sgl nbl nl t h1 ho hnn htp haa sx ln
    have hk := (km_is kd t.2.2.2.1).2.2.2.2.2
    have hw := t.2.2.2.2.1
    have iw := w_is t (show 17 < 30 by decide)
    by_cases c : w = 20
    · have iw : isW (km kd) wd 17 = true := by rw [iw]; exact decide_eq_true c
      have hk1 := w_k1 t (by omega)
      obtain ⟨T1, M1, c1, x1, m1⟩ := s_adv hB hM hb hn hl (po := (posn vs nn o wi tp)) (pl := pl) (tk := tk) (td := td) (fp := fp) (plM := qm) t (by omega) (by omega)
      obtain ⟨a1, kd1, pl1, w1, le1, nu1, fp1, nm1, sg1, qm1, wd1, rfl, rfl, t1⟩ := c1
      rcases hS _ a1 kd1 pl1 w1 le1 nu1 tk td fp1 nm1 sg1 qm1 wd1 o s nn tp ws sgl nbl nl t1 ho (by omega) htp sx ln with ⟨T, M, o2, s2, nn2, tp2, ws2, sl2, nb2, nl2, f, sx2, h⟩ | ⟨k2, tk2, td2, T2, M2, o2, s2, nn2, tp2, ws2, sl2, nb2, nl2, c2, o1, o2b, on, tp2b, sx2, ln2, h⟩
      · obtain ⟨s3, ws3, sl3, nb3, sx3, hadd⟩ := sx_add115 sx2 (w := 20) (by decide) (Int32.ofNat 0) (Int32.ofNat 0)
        have f0 := f
        obtain ⟨a9, kd9, pl9, w9, le9, nu9, tk9, kk9, am9, fm9, kM9, nm9, sg9, fa9, qm9, wd9, td9, rfl, rfl, f9⟩ := f
        refine Or.inl ⟨tcl n lim a9 kd9 pl9 w9 le9 nu9 tk9 (Int32.ofNat kk9) (Int32.ofNat pl9), mcl (Int32.ofNat 0) (Int32.ofNat 0) n lim am9 fm9 kM9 nm9 sg9 fa9 qm9 wd9 td9 (posn vs nn2 o2 wi tp2), o2, s3, nn2, tp2, ws3, sl3, nb3, nl2, f0, sx3, fun H L hlen l0 l1 l2 l3 l4 l5 => ?_, fun H L hlen l0 l1 => ?_⟩
        · refine rt_il2 rfl l5 ?_
          refine rt_bip rfl k8_20 ?_
          refine biF_ge rfl (n_nle (by omega) (by decide)) ?_
          refine rt_il2 rfl l4 ?_
          refine bcF_eq rfl (by decide) ?_
          refine rt_ald rfl l1 ?_
          refine ow_gf rfl rfl rfl hlen rfl ?_
          refine RT_step (pc2 := 31) rfl (fun _ _ => rfl) ?_
          refine rt_acN rfl (by omega) (by omega) ?_
          refine RT_if c ?_
          refine rt_ald rfl l1 ?_
          refine ow_iv0 (l2 := ((1, tcl n lim a1 kd1 pl1 w1 le1 nu1 tk (Int32.ofNat 0) fp1) :: (2, bcl bs) :: [(13, dcl13 P Dn lw cl id gl bo), (14, lng pn), (15, ia ri), (16, ia lf), (17, ia wa), (18, ia fo), (19, lng dn), (20, ia ha), (21, ia pa), (22, ia bl), (115, .inr (7, [.int (Int32.ofNat o), .int (Int32.ofNat s), .ref 116, .ref 117, .ref 118, .ref 119])), (116, wrd ws), (117, ia sgl), (118, ia nbl)])) rfl rfl rfl rfl hlen rfl rfl rfl ((x1 _ (ov_hl hlen) (ov_at rfl (ov_lt hlen (by decide))) (ov_at rfl (ov_lt hlen (by decide)))).up (by omega)) rfl ?_
          refine rt_ald rfl l0 ?_
          refine rt_ald rfl l1 ?_
          refine rt_ald rfl l2 ?_
          refine rt_ild rfl l3 ?_
          refine ow_iv1 (l2 := ((1, tcl n lim a9 kd9 pl9 w9 le9 nu9 tk9 (Int32.ofNat kk9) (Int32.ofNat pl9)) :: (2, bcl bs) :: [(13, dcl13 P Dn lw cl id gl bo), (14, lng pn), (15, ia ri), (16, ia lf), (17, ia wa), (18, ia fo), (19, lng dn), (20, ia ha), (21, ia pa), (22, ia bl), (115, .inr (7, [.int (Int32.ofNat o2), .int (Int32.ofNat s2), .ref 116, .ref 117, .ref 118, .ref 119])), (116, wrd ws2), (117, ia sl2), (118, ia nb2)])) rfl rfl rfl rfl hlen rfl rfl rfl ((h.1 H hlen).up (by omega)) rfl ?_
          refine rt_is2 rfl (by decide +kernel) ?_
          refine rt_ald rfl (gs_o rfl l0 rfl) ?_
          refine RT_step (pc2 := 51) rfl (fun _ _ => rfl) ?_
          refine rt_ico rfl ki_0 ?_
          refine rt_ico rfl ki_0 ?_
          refine ow_iv0 (l2 := ((1, tcl n lim a9 kd9 pl9 w9 le9 nu9 tk9 (Int32.ofNat kk9) (Int32.ofNat pl9)) :: (2, bcl bs) :: [(13, dcl13 P Dn lw cl id gl bo), (14, lng pn), (15, ia ri), (16, ia lf), (17, ia wa), (18, ia fo), (19, lng dn), (20, ia ha), (21, ia pa), (22, ia bl), (115, .inr (7, [.int (Int32.ofNat o2), .int (Int32.ofNat s3), .ref 116, .ref 117, .ref 118, .ref 119])), (116, wrd ws3), (117, ia sl3), (118, ia nb3)])) rfl rfl rfl rfl hlen rfl rfl rfl ((hadd _ _ (ov_hl hlen) (ov_at rfl (ov_lt hlen (by decide))) (ov_at rfl (ov_lt hlen (by decide))) (ov_at rfl (ov_lt hlen (by decide))) (ov_at rfl (ov_lt hlen (by decide)))).up (by omega)) rfl ?_
          refine rt_inc rfl (gs_o rfl l5 rfl) (by decide +kernel) ?_
          rw [in_1]
          refine RT_step (pc2 := 12) rfl (fun _ _ => rfl) ?_
          by_cases c9 : ii + 1 < 20
          · refine rt_il2 rfl gs_n ?_
            refine rt_bip rfl k8_20 ?_
            refine biF_ge rfl (n_nle (by omega) (by omega)) ?_
            refine rt_il2 rfl (gs_o rfl gs_n rfl) ?_
            refine bcT_eq rfl rfl ?_
            refine rt_il2 rfl (gs_o rfl gs_n rfl) ?_
            exact ow_irt rfl rfl rfl
          · refine rt_il2 rfl gs_n ?_
            refine rt_bip rfl k8_20 ?_
            refine biT_ge rfl (n_le (by omega) (by omega)) ?_
            refine rt_il2 rfl (gs_o rfl gs_n rfl) ?_
            exact ow_irt rfl rfl rfl
        · refine rt_ald rfl l0 ?_
          refine rt_bip rfl k8_17 ?_
          refine ow_iv1 (l2 := ((180, mcl (Int32.ofNat 0) (Int32.ofNat 0) n lim a pl (km kd) nm sg (Int32.ofNat 0) qm wd td (posn vs nn o wi tp)) :: (181, mtl ts) :: [(182, ia nw), (187, lng nz), (202, ia nl)])) rfl rfl rfl rfl hlen rfl rfl rfl ((m_isWord (k := 17) (ov_hl hlen) (ov_at rfl (ov_lt hlen (by decide))) hk (by decide)).up (by omega)) rfl ?_
          refine bcF_eq rfl (b01_t iw) ?_
          refine rt_ald rfl l0 ?_
          refine ow_iv0 (l2 := ((180, mcl (Int32.ofNat 0) (Int32.ofNat 0) n lim a1 pl1 (km kd1) nm1 sg1 (Int32.ofNat 0) qm1 wd1 td (posn vs nn o wi tp)) :: (181, mtl ts) :: [(182, ia nw), (187, lng nz), (202, ia nl)])) rfl rfl rfl rfl hlen rfl rfl rfl ((m1 _ (ov_hl hlen) (ov_at rfl (ov_lt hlen (by decide))) (ov_at rfl (ov_lt hlen (by decide)))).up (by omega)) rfl ?_
          refine rt_ald rfl l0 ?_
          refine ow_iv1 (l2 := ((180, mcl (Int32.ofNat 0) (Int32.ofNat 0) n lim am9 fm9 kM9 nm9 sg9 fa9 qm9 wd9 td9 (posn vs nn2 o2 wi tp2)) :: (181, mtl ts) :: [(182, ia nw), (187, lng nz), (202, ia nl2)])) rfl rfl rfl rfl hlen rfl rfl rfl ((h.2 H hlen).up (by omega)) rfl ?_
          refine bcT_ne rfl rfl ?_
          refine rt_ico rfl ki_0 ?_
          exact ow_irt rfl rfl rfl
      · obtain ⟨a2, kd2, pl2, w2, le2, nu2, fp2, nm2, sg2, qm2, wd2, rfl, rfl, t2⟩ := c2
        obtain ⟨s3, ws3, sl3, nb3, sx3, hadd⟩ := sx_add115 sx2 (w := 20) (by decide) (Int32.ofNat 0) (Int32.ofNat 0)
        have ln3 : ((((nl2.set (4 * nn2) (Int32.ofNat 3)).set (4 * nn2 + 1) (Int32.ofNat aa)).set (4 * nn2 + 2) (Int32.ofNat tp2)).set (4 * nn2 + 3) (Int32.ofNat 0)).length = 240 := by simp only [List.length_set]; exact ln2
        rcases ih (ii + 1) (by omega) k2 a2 kd2 pl2 w2 le2 nu2 tk2 td2 fp2 nm2 sg2 qm2 wd2 o2 s3 (nn2 + 1) tp2 nn2 ws3 sl3 nb3 ((((nl2.set (4 * nn2) (Int32.ofNat 3)).set (4 * nn2 + 1) (Int32.ofNat aa)).set (4 * nn2 + 2) (Int32.ofNat tp2)).set (4 * nn2 + 3) (Int32.ofNat 0)) t2 (by omega) o2b (by omega) tp2b (by omega) sx3 ln3 with ⟨T, M, o4, s4, nn4, tp4, ws4, sg4, nb4, nl4, f, sx4, g1, g2⟩ | ⟨k4, tk4, td4, T4, M4, o4, s4, nn4, tp4, ws4, sg4, nb4, nl4, c4, q1, q2, q3, q4, sx4, ln4, g1, g2⟩
        · refine Or.inl ⟨T, M, o4, s4, nn4, tp4, ws4, sg4, nb4, nl4, f, sx4, fun H L hlen l0 l1 l2 l3 l4 l5 => ?_, fun H L hlen l0 l1 => ?_⟩
          · refine rt_il2 rfl l5 ?_
            refine rt_bip rfl k8_20 ?_
            refine biF_ge rfl (n_nle (by omega) (by decide)) ?_
            refine rt_il2 rfl l4 ?_
            refine bcF_eq rfl (by decide) ?_
            refine rt_ald rfl l1 ?_
            refine ow_gf rfl rfl rfl hlen rfl ?_
            refine RT_step (pc2 := 31) rfl (fun _ _ => rfl) ?_
            refine rt_acN rfl (by omega) (by omega) ?_
            refine RT_if c ?_
            refine rt_ald rfl l1 ?_
            refine ow_iv0 (l2 := ((1, tcl n lim a1 kd1 pl1 w1 le1 nu1 tk (Int32.ofNat 0) fp1) :: (2, bcl bs) :: [(13, dcl13 P Dn lw cl id gl bo), (14, lng pn), (15, ia ri), (16, ia lf), (17, ia wa), (18, ia fo), (19, lng dn), (20, ia ha), (21, ia pa), (22, ia bl), (115, .inr (7, [.int (Int32.ofNat o), .int (Int32.ofNat s), .ref 116, .ref 117, .ref 118, .ref 119])), (116, wrd ws), (117, ia sgl), (118, ia nbl)])) rfl rfl rfl rfl hlen rfl rfl rfl ((x1 _ (ov_hl hlen) (ov_at rfl (ov_lt hlen (by decide))) (ov_at rfl (ov_lt hlen (by decide)))).up (by omega)) rfl ?_
            refine rt_ald rfl l0 ?_
            refine rt_ald rfl l1 ?_
            refine rt_ald rfl l2 ?_
            refine rt_ild rfl l3 ?_
            refine ow_iv1 (l2 := ((1, tcl n lim a2 kd2 pl2 w2 le2 nu2 tk2 (Int32.ofNat 0) fp2) :: (2, bcl bs) :: [(13, dcl13 P Dn lw cl id gl bo), (14, lng pn), (15, ia ri), (16, ia lf), (17, ia wa), (18, ia fo), (19, lng dn), (20, ia ha), (21, ia pa), (22, ia bl), (115, .inr (7, [.int (Int32.ofNat o2), .int (Int32.ofNat s2), .ref 116, .ref 117, .ref 118, .ref 119])), (116, wrd ws2), (117, ia sl2), (118, ia nb2)])) rfl rfl rfl rfl hlen rfl rfl rfl ((h.1 H hlen).up (by omega)) rfl ?_
            refine rt_is2 rfl (by decide +kernel) ?_
            refine rt_ald rfl (gs_o rfl l0 rfl) ?_
            refine RT_step (pc2 := 51) rfl (fun _ _ => rfl) ?_
            refine rt_ico rfl ki_0 ?_
            refine rt_ico rfl ki_0 ?_
            refine ow_iv0 (l2 := ((1, tcl n lim a2 kd2 pl2 w2 le2 nu2 tk2 (Int32.ofNat 0) fp2) :: (2, bcl bs) :: [(13, dcl13 P Dn lw cl id gl bo), (14, lng pn), (15, ia ri), (16, ia lf), (17, ia wa), (18, ia fo), (19, lng dn), (20, ia ha), (21, ia pa), (22, ia bl), (115, .inr (7, [.int (Int32.ofNat o2), .int (Int32.ofNat s3), .ref 116, .ref 117, .ref 118, .ref 119])), (116, wrd ws3), (117, ia sl3), (118, ia nb3)])) rfl rfl rfl rfl hlen rfl rfl rfl ((hadd _ _ (ov_hl hlen) (ov_at rfl (ov_lt hlen (by decide))) (ov_at rfl (ov_lt hlen (by decide))) (ov_at rfl (ov_lt hlen (by decide))) (ov_at rfl (ov_lt hlen (by decide)))).up (by omega)) rfl ?_
            refine rt_inc rfl (gs_o rfl l5 rfl) (by decide +kernel) ?_
            rw [in_1]
            refine RT_step (pc2 := 12) rfl (fun _ _ => rfl) ?_
            exact g1 H _ hlen (gs_o rfl (gs_o rfl l0 rfl) rfl) (gs_o rfl (gs_o rfl l1 rfl) rfl) (gs_o rfl (gs_o rfl l2 rfl) rfl) (gs_o rfl (gs_o rfl l3 rfl) rfl) (gs_o rfl gs_n rfl) gs_n
          · refine rt_ald rfl l0 ?_
            refine rt_bip rfl k8_17 ?_
            refine ow_iv1 (l2 := ((180, mcl (Int32.ofNat 0) (Int32.ofNat 0) n lim a pl (km kd) nm sg (Int32.ofNat 0) qm wd td (posn vs nn o wi tp)) :: (181, mtl ts) :: [(182, ia nw), (187, lng nz), (202, ia nl)])) rfl rfl rfl rfl hlen rfl rfl rfl ((m_isWord (k := 17) (ov_hl hlen) (ov_at rfl (ov_lt hlen (by decide))) hk (by decide)).up (by omega)) rfl ?_
            refine bcF_eq rfl (b01_t iw) ?_
            refine rt_ald rfl l0 ?_
            refine ow_iv0 (l2 := ((180, mcl (Int32.ofNat 0) (Int32.ofNat 0) n lim a1 pl1 (km kd1) nm1 sg1 (Int32.ofNat 0) qm1 wd1 td (posn vs nn o wi tp)) :: (181, mtl ts) :: [(182, ia nw), (187, lng nz), (202, ia nl)])) rfl rfl rfl rfl hlen rfl rfl rfl ((m1 _ (ov_hl hlen) (ov_at rfl (ov_lt hlen (by decide))) (ov_at rfl (ov_lt hlen (by decide)))).up (by omega)) rfl ?_
            refine rt_ald rfl l0 ?_
            refine ow_iv1 (l2 := ((180, mcl (Int32.ofNat 0) (Int32.ofNat 0) n lim a2 pl2 (km kd2) nm2 sg2 (Int32.ofNat 0) qm2 wd2 td2 (posn vs nn2 o2 wi tp2)) :: (181, mtl ts) :: [(182, ia nw), (187, lng nz), (202, ia nl2)])) rfl rfl rfl rfl hlen rfl rfl rfl ((h.2 H hlen).up (by omega)) rfl ?_
            refine bcF_ne rfl (by decide) ?_
            refine rt_ald rfl l0 ?_
            refine rt_ico rfl ki_3 ?_
            refine rt_ild rfl l1 ?_
            refine rt_ald rfl l0 ?_
            refine ow_gf rfl rfl rfl hlen rfl ?_
            refine rt_ico rfl ki_0 ?_
            refine ow_iv1 (l2 := ((180, mcl (Int32.ofNat 0) (Int32.ofNat 0) n lim a2 pl2 (km kd2) nm2 sg2 (Int32.ofNat 0) qm2 wd2 td2 (posn vs (nn2 + 1) o2 wi tp2)) :: (181, mtl ts) :: [(182, ia nw), (187, lng nz), (202, ia ((((nl2.set (4 * nn2) (Int32.ofNat 3)).set (4 * nn2 + 1) (Int32.ofNat aa)).set (4 * nn2 + 2) (Int32.ofNat tp2)).set (4 * nn2 + 3) (Int32.ofNat 0)))])) rfl rfl rfl rfl hlen rfl rfl rfl ((m_says (ov_hl hlen) (ov_at rfl (ov_lt hlen (by decide))) (ov_at rfl (ov_lt hlen (by decide))) ln2 (by omega)).up (by omega)) rfl ?_
            refine rt_ist rfl (by decide +kernel) ?_
            refine RT_step (pc2 := 14) rfl (fun _ _ => rfl) ?_
            exact g2 H _ hlen (gs_o rfl l0 rfl) gs_n
        · refine Or.inr ⟨k4, tk4, td4, T4, M4, o4, s4, nn4, tp4, ws4, sg4, nb4, nl4, c4, by omega, q2, by omega, q4, sx4, ln4, fun H L hlen l0 l1 l2 l3 l4 l5 => ?_, fun H L hlen l0 l1 => ?_⟩
          · refine rt_il2 rfl l5 ?_
            refine rt_bip rfl k8_20 ?_
            refine biF_ge rfl (n_nle (by omega) (by decide)) ?_
            refine rt_il2 rfl l4 ?_
            refine bcF_eq rfl (by decide) ?_
            refine rt_ald rfl l1 ?_
            refine ow_gf rfl rfl rfl hlen rfl ?_
            refine RT_step (pc2 := 31) rfl (fun _ _ => rfl) ?_
            refine rt_acN rfl (by omega) (by omega) ?_
            refine RT_if c ?_
            refine rt_ald rfl l1 ?_
            refine ow_iv0 (l2 := ((1, tcl n lim a1 kd1 pl1 w1 le1 nu1 tk (Int32.ofNat 0) fp1) :: (2, bcl bs) :: [(13, dcl13 P Dn lw cl id gl bo), (14, lng pn), (15, ia ri), (16, ia lf), (17, ia wa), (18, ia fo), (19, lng dn), (20, ia ha), (21, ia pa), (22, ia bl), (115, .inr (7, [.int (Int32.ofNat o), .int (Int32.ofNat s), .ref 116, .ref 117, .ref 118, .ref 119])), (116, wrd ws), (117, ia sgl), (118, ia nbl)])) rfl rfl rfl rfl hlen rfl rfl rfl ((x1 _ (ov_hl hlen) (ov_at rfl (ov_lt hlen (by decide))) (ov_at rfl (ov_lt hlen (by decide)))).up (by omega)) rfl ?_
            refine rt_ald rfl l0 ?_
            refine rt_ald rfl l1 ?_
            refine rt_ald rfl l2 ?_
            refine rt_ild rfl l3 ?_
            refine ow_iv1 (l2 := ((1, tcl n lim a2 kd2 pl2 w2 le2 nu2 tk2 (Int32.ofNat 0) fp2) :: (2, bcl bs) :: [(13, dcl13 P Dn lw cl id gl bo), (14, lng pn), (15, ia ri), (16, ia lf), (17, ia wa), (18, ia fo), (19, lng dn), (20, ia ha), (21, ia pa), (22, ia bl), (115, .inr (7, [.int (Int32.ofNat o2), .int (Int32.ofNat s2), .ref 116, .ref 117, .ref 118, .ref 119])), (116, wrd ws2), (117, ia sl2), (118, ia nb2)])) rfl rfl rfl rfl hlen rfl rfl rfl ((h.1 H hlen).up (by omega)) rfl ?_
            refine rt_is2 rfl (by decide +kernel) ?_
            refine rt_ald rfl (gs_o rfl l0 rfl) ?_
            refine RT_step (pc2 := 51) rfl (fun _ _ => rfl) ?_
            refine rt_ico rfl ki_0 ?_
            refine rt_ico rfl ki_0 ?_
            refine ow_iv0 (l2 := ((1, tcl n lim a2 kd2 pl2 w2 le2 nu2 tk2 (Int32.ofNat 0) fp2) :: (2, bcl bs) :: [(13, dcl13 P Dn lw cl id gl bo), (14, lng pn), (15, ia ri), (16, ia lf), (17, ia wa), (18, ia fo), (19, lng dn), (20, ia ha), (21, ia pa), (22, ia bl), (115, .inr (7, [.int (Int32.ofNat o2), .int (Int32.ofNat s3), .ref 116, .ref 117, .ref 118, .ref 119])), (116, wrd ws3), (117, ia sl3), (118, ia nb3)])) rfl rfl rfl rfl hlen rfl rfl rfl ((hadd _ _ (ov_hl hlen) (ov_at rfl (ov_lt hlen (by decide))) (ov_at rfl (ov_lt hlen (by decide))) (ov_at rfl (ov_lt hlen (by decide))) (ov_at rfl (ov_lt hlen (by decide)))).up (by omega)) rfl ?_
            refine rt_inc rfl (gs_o rfl l5 rfl) (by decide +kernel) ?_
            rw [in_1]
            refine RT_step (pc2 := 12) rfl (fun _ _ => rfl) ?_
            exact g1 H _ hlen (gs_o rfl (gs_o rfl l0 rfl) rfl) (gs_o rfl (gs_o rfl l1 rfl) rfl) (gs_o rfl (gs_o rfl l2 rfl) rfl) (gs_o rfl (gs_o rfl l3 rfl) rfl) (gs_o rfl gs_n rfl) gs_n
          · refine rt_ald rfl l0 ?_
            refine rt_bip rfl k8_17 ?_
            refine ow_iv1 (l2 := ((180, mcl (Int32.ofNat 0) (Int32.ofNat 0) n lim a pl (km kd) nm sg (Int32.ofNat 0) qm wd td (posn vs nn o wi tp)) :: (181, mtl ts) :: [(182, ia nw), (187, lng nz), (202, ia nl)])) rfl rfl rfl rfl hlen rfl rfl rfl ((m_isWord (k := 17) (ov_hl hlen) (ov_at rfl (ov_lt hlen (by decide))) hk (by decide)).up (by omega)) rfl ?_
            refine bcF_eq rfl (b01_t iw) ?_
            refine rt_ald rfl l0 ?_
            refine ow_iv0 (l2 := ((180, mcl (Int32.ofNat 0) (Int32.ofNat 0) n lim a1 pl1 (km kd1) nm1 sg1 (Int32.ofNat 0) qm1 wd1 td (posn vs nn o wi tp)) :: (181, mtl ts) :: [(182, ia nw), (187, lng nz), (202, ia nl)])) rfl rfl rfl rfl hlen rfl rfl rfl ((m1 _ (ov_hl hlen) (ov_at rfl (ov_lt hlen (by decide))) (ov_at rfl (ov_lt hlen (by decide)))).up (by omega)) rfl ?_
            refine rt_ald rfl l0 ?_
            refine ow_iv1 (l2 := ((180, mcl (Int32.ofNat 0) (Int32.ofNat 0) n lim a2 pl2 (km kd2) nm2 sg2 (Int32.ofNat 0) qm2 wd2 td2 (posn vs nn2 o2 wi tp2)) :: (181, mtl ts) :: [(182, ia nw), (187, lng nz), (202, ia nl2)])) rfl rfl rfl rfl hlen rfl rfl rfl ((h.2 H hlen).up (by omega)) rfl ?_
            refine bcF_ne rfl (by decide) ?_
            refine rt_ald rfl l0 ?_
            refine rt_ico rfl ki_3 ?_
            refine rt_ild rfl l1 ?_
            refine rt_ald rfl l0 ?_
            refine ow_gf rfl rfl rfl hlen rfl ?_
            refine rt_ico rfl ki_0 ?_
            refine ow_iv1 (l2 := ((180, mcl (Int32.ofNat 0) (Int32.ofNat 0) n lim a2 pl2 (km kd2) nm2 sg2 (Int32.ofNat 0) qm2 wd2 td2 (posn vs (nn2 + 1) o2 wi tp2)) :: (181, mtl ts) :: [(182, ia nw), (187, lng nz), (202, ia ((((nl2.set (4 * nn2) (Int32.ofNat 3)).set (4 * nn2 + 1) (Int32.ofNat aa)).set (4 * nn2 + 2) (Int32.ofNat tp2)).set (4 * nn2 + 3) (Int32.ofNat 0)))])) rfl rfl rfl rfl hlen rfl rfl rfl ((m_says (ov_hl hlen) (ov_at rfl (ov_lt hlen (by decide))) (ov_at rfl (ov_lt hlen (by decide))) ln2 (by omega)).up (by omega)) rfl ?_
            refine rt_ist rfl (by decide +kernel) ?_
            refine RT_step (pc2 := 14) rfl (fun _ _ => rfl) ?_
            exact g2 H _ hlen (gs_o rfl l0 rfl) gs_n
    · have iw : isW (km kd) wd 17 = false := by rw [iw]; exact decide_eq_false c
      refine Or.inr ⟨k, tk, td, tcl n lim a kd pl w le nu tk (Int32.ofNat 0) fp, mcl (Int32.ofNat 0) (Int32.ofNat 0) n lim a pl (km kd) nm sg (Int32.ofNat 0) qm wd td (posn vs nn o wi aa), o, s, nn, aa, ws, sgl, nbl, nl, tf_td t, by omega, ho, by omega, haa, sx, ln, fun H L hlen l0 l1 l2 l3 l4 l5 => ?_, fun H L hlen l0 l1 => ?_⟩
      · refine rt_il2 rfl l5 ?_
        refine rt_bip rfl k8_20 ?_
        refine biF_ge rfl (n_nle (by omega) (by decide)) ?_
        refine rt_il2 rfl l4 ?_
        refine bcF_eq rfl (by decide) ?_
        refine rt_ald rfl l1 ?_
        refine ow_gf rfl rfl rfl hlen rfl ?_
        refine RT_step (pc2 := 31) rfl (fun _ _ => rfl) ?_
        refine rt_acN rfl (by omega) (by omega) ?_
        refine RT_el c ?_
        refine rt_il2 rfl l4 ?_
        exact ow_irt rfl rfl rfl
      · refine rt_ald rfl l0 ?_
        refine rt_bip rfl k8_17 ?_
        refine ow_iv1 (l2 := ((180, mcl (Int32.ofNat 0) (Int32.ofNat 0) n lim a pl (km kd) nm sg (Int32.ofNat 0) qm wd td (posn vs nn o wi tp)) :: (181, mtl ts) :: [(182, ia nw), (187, lng nz), (202, ia nl)])) rfl rfl rfl rfl hlen rfl rfl rfl ((m_isWord (k := 17) (ov_hl hlen) (ov_at rfl (ov_lt hlen (by decide))) hk (by decide)).up (by omega)) rfl ?_
        refine bcT_eq rfl (b01_f iw) ?_
        refine rt_ald rfl l0 ?_
        refine rt_ild rfl l1 ?_
        refine ow_pf (l2 := ((180, mcl (Int32.ofNat 0) (Int32.ofNat 0) n lim a pl (km kd) nm sg (Int32.ofNat 0) qm wd td (posn vs nn o wi aa)) :: (181, mtl ts) :: [(182, ia nw), (187, lng nz), (202, ia nl)])) rfl rfl rfl rfl rfl hlen rfl rfl ?_
        refine rt_ico rfl ki_1 ?_
        exact ow_irt rfl rfl rfl
theorem rc13_115 {B : Nat → Nat} {bs ts : List Int32} {vs : Nat → Value} {n lim : Nat} {P : Nat} {Dn : Nat} {lw : Int32} {cl : Int32} {id : Int32} {gl : Nat} {bo : Nat} {pn : List Int64} {ri : List Int32} {lf : List Int32} {wa : List Int32} {fo : List Int32} {dn : List Int64} {ha : List Int32} {pa : List Int32} {bl : List Int32} {nw : List Int32} {nz : List Int64} (hB : BY bs B) (hM : MY ts B) (hb : ∀ i, B i < 256) (hn : n ≤ 940) (hl : lim ≤ 940) {wi KX KY : Nat} (hS : SO13_115 bs ts vs n lim P Dn lw cl id gl bo pn ri lf wa fo dn ha pa bl nw nz KX 141 [.ref 115, .ref 1, .ref 13, .int (Int32.ofNat (wi + 1))] KY 245 wi) : SO13_115 bs ts vs n lim P Dn lw cl id gl bo pn ri lf wa fo dn ha pa bl nw nz (KX + 4) 142 [.ref 115, .ref 1, .ref 13, .int (Int32.ofNat (wi + 1))] (KY + 4) 263 wi := by
  intro k a kd pl w le nu tk td fp nm sg qm wd o s nn tp ws sgl nbl nl t ho hnn htp sx ln
  rcases hS _ a kd pl w le nu tk td fp nm sg qm wd o s nn tp ws sgl nbl nl t ho hnn htp sx ln with ⟨T, M, o2, s2, nn2, tp2, ws2, sl2, nb2, nl2, f, sx2, h⟩ | ⟨k2, tk2, td2, T2, M2, o2, s2, nn2, tp2, ws2, sl2, nb2, nl2, c2, o1, o2b, on, tp2b, sx2, ln2, h⟩
  · refine Or.inl ⟨T, M, o2, s2, nn2, tp2, ws2, sl2, nb2, nl2, f, sx2, fun H hlen => ?_, fun H hlen => ?_⟩
    · refine FR_st2 (l2 := ((1, T) :: (2, bcl bs) :: [(13, dcl13 P Dn lw cl id gl bo), (14, lng pn), (15, ia ri), (16, ia lf), (17, ia wa), (18, ia fo), (19, lng dn), (20, ia ha), (21, ia pa), (22, ia bl), (115, .inr (7, [.int (Int32.ofNat o2), .int (Int32.ofNat s2), .ref 116, .ref 117, .ref 118, .ref 119])), (116, wrd ws2), (117, ia sl2), (118, ia nb2)])) rfl rfl rfl ?_
      refine RT_step (pc2 := 1) rfl (fun _ _ => rfl) ?_
      refine RT_step (pc2 := 2) rfl (fun _ _ => rfl) ?_
      refine RT_step (pc2 := 3) rfl (fun _ _ => rfl) ?_
      refine RT_step (pc2 := 4) rfl (fun _ _ => rfl) ?_
      refine ow_iv1 (l2 := ((1, T) :: (2, bcl bs) :: [(13, dcl13 P Dn lw cl id gl bo), (14, lng pn), (15, ia ri), (16, ia lf), (17, ia wa), (18, ia fo), (19, lng dn), (20, ia ha), (21, ia pa), (22, ia bl), (115, .inr (7, [.int (Int32.ofNat o2), .int (Int32.ofNat s2), .ref 116, .ref 117, .ref 118, .ref 119])), (116, wrd ws2), (117, ia sl2), (118, ia nb2)])) rfl rfl rfl rfl hlen rfl rfl rfl ((h.1 H hlen).up (by omega)) rfl ?_
      refine RT_step (pc2 := 9) rfl (fun _ _ => rfl) ?_
      refine rt_ico rfl ki_0 ?_
      refine RT_step (pc2 := 12) rfl (fun _ _ => rfl) ?_
      refine RT_step (pc2 := 14) rfl (fun _ _ => rfl) ?_
      refine rt_bip rfl k8_20 ?_
      refine biF_ge rfl (n_nle (by decide) (by decide)) ?_
      refine RT_step (pc2 := 21) rfl (fun _ _ => rfl) ?_
      refine bcT_eq rfl rfl ?_
      refine RT_step (pc2 := 64) rfl (fun _ _ => rfl) ?_
      exact ow_irt rfl rfl rfl
    · refine FR_st2 (l2 := ((180, M) :: (181, mtl ts) :: [(182, ia nw), (187, lng nz), (202, ia nl2)])) rfl rfl rfl ?_
      refine RT_step (pc2 := 1) rfl (fun _ _ => rfl) ?_
      refine ow_iv1 (l2 := ((180, M) :: (181, mtl ts) :: [(182, ia nw), (187, lng nz), (202, ia nl2)])) rfl rfl rfl rfl hlen rfl rfl rfl ((h.2 H hlen).up (by omega)) rfl ?_
      refine bcT_ne rfl rfl ?_
      refine rt_ico rfl ki_0 ?_
      exact ow_irt rfl rfl rfl
  · obtain ⟨a2, kd2, pl2, w2, le2, nu2, fp2, nm2, sg2, qm2, wd2, rfl, rfl, t2⟩ := c2
    rcases rcL13_115 hB hM hb hn hl hS 20 0 rfl k2 a2 kd2 pl2 w2 le2 nu2 tk2 td2 fp2 nm2 sg2 qm2 wd2 o2 s2 nn2 tp2 tp2 ws2 sl2 nb2 nl2 t2 (by omega) o2b (by omega) tp2b tp2b sx2 ln2 with ⟨T, M, o4, s4, nn4, tp4, ws4, sg4, nb4, nl4, f, sx4, g1, g2⟩ | ⟨k4, tk4, td4, T4, M4, o4, s4, nn4, tp4, ws4, sg4, nb4, nl4, c4, q1, q2, q3, q4, sx4, ln4, g1, g2⟩
    · refine Or.inl ⟨T, M, o4, s4, nn4, tp4, ws4, sg4, nb4, nl4, f, sx4, fun H hlen => ?_, fun H hlen => ?_⟩
      · refine FR_st2 (l2 := ((1, T) :: (2, bcl bs) :: [(13, dcl13 P Dn lw cl id gl bo), (14, lng pn), (15, ia ri), (16, ia lf), (17, ia wa), (18, ia fo), (19, lng dn), (20, ia ha), (21, ia pa), (22, ia bl), (115, .inr (7, [.int (Int32.ofNat o4), .int (Int32.ofNat s4), .ref 116, .ref 117, .ref 118, .ref 119])), (116, wrd ws4), (117, ia sg4), (118, ia nb4)])) rfl rfl rfl ?_
        refine RT_step (pc2 := 1) rfl (fun _ _ => rfl) ?_
        refine RT_step (pc2 := 2) rfl (fun _ _ => rfl) ?_
        refine RT_step (pc2 := 3) rfl (fun _ _ => rfl) ?_
        refine RT_step (pc2 := 4) rfl (fun _ _ => rfl) ?_
        refine ow_iv1 (l2 := ((1, tcl n lim a2 kd2 pl2 w2 le2 nu2 tk2 (Int32.ofNat 0) fp2) :: (2, bcl bs) :: [(13, dcl13 P Dn lw cl id gl bo), (14, lng pn), (15, ia ri), (16, ia lf), (17, ia wa), (18, ia fo), (19, lng dn), (20, ia ha), (21, ia pa), (22, ia bl), (115, .inr (7, [.int (Int32.ofNat o2), .int (Int32.ofNat s2), .ref 116, .ref 117, .ref 118, .ref 119])), (116, wrd ws2), (117, ia sl2), (118, ia nb2)])) rfl rfl rfl rfl hlen rfl rfl rfl ((h.1 H hlen).up (by omega)) rfl ?_
        refine RT_step (pc2 := 9) rfl (fun _ _ => rfl) ?_
        refine rt_ico rfl ki_0 ?_
        refine RT_step (pc2 := 12) rfl (fun _ _ => rfl) ?_
        exact g1 H _ hlen rfl rfl rfl rfl rfl rfl
      · refine FR_st2 (l2 := ((180, M) :: (181, mtl ts) :: [(182, ia nw), (187, lng nz), (202, ia nl4)])) rfl rfl rfl ?_
        refine RT_step (pc2 := 1) rfl (fun _ _ => rfl) ?_
        refine ow_iv1 (l2 := ((180, mcl (Int32.ofNat 0) (Int32.ofNat 0) n lim a2 pl2 (km kd2) nm2 sg2 (Int32.ofNat 0) qm2 wd2 td2 (posn vs nn2 o2 wi tp2)) :: (181, mtl ts) :: [(182, ia nw), (187, lng nz), (202, ia nl2)])) rfl rfl rfl rfl hlen rfl rfl rfl ((h.2 H hlen).up (by omega)) rfl ?_
        refine bcF_ne rfl (by decide) ?_
        refine RT_step (pc2 := 10) rfl (fun _ _ => rfl) ?_
        refine ow_gf rfl rfl rfl hlen rfl ?_
        refine RT_step (pc2 := 14) rfl (fun _ _ => rfl) ?_
        exact g2 H _ hlen rfl rfl
    · refine Or.inr ⟨k4, tk4, td4, T4, M4, o4, s4, nn4, tp4, ws4, sg4, nb4, nl4, c4, by omega, q2, by omega, q4, sx4, ln4, fun H hlen => ?_, fun H hlen => ?_⟩
      · refine FR_st2 (l2 := ((1, T4) :: (2, bcl bs) :: [(13, dcl13 P Dn lw cl id gl bo), (14, lng pn), (15, ia ri), (16, ia lf), (17, ia wa), (18, ia fo), (19, lng dn), (20, ia ha), (21, ia pa), (22, ia bl), (115, .inr (7, [.int (Int32.ofNat o4), .int (Int32.ofNat s4), .ref 116, .ref 117, .ref 118, .ref 119])), (116, wrd ws4), (117, ia sg4), (118, ia nb4)])) rfl rfl rfl ?_
        refine RT_step (pc2 := 1) rfl (fun _ _ => rfl) ?_
        refine RT_step (pc2 := 2) rfl (fun _ _ => rfl) ?_
        refine RT_step (pc2 := 3) rfl (fun _ _ => rfl) ?_
        refine RT_step (pc2 := 4) rfl (fun _ _ => rfl) ?_
        refine ow_iv1 (l2 := ((1, tcl n lim a2 kd2 pl2 w2 le2 nu2 tk2 (Int32.ofNat 0) fp2) :: (2, bcl bs) :: [(13, dcl13 P Dn lw cl id gl bo), (14, lng pn), (15, ia ri), (16, ia lf), (17, ia wa), (18, ia fo), (19, lng dn), (20, ia ha), (21, ia pa), (22, ia bl), (115, .inr (7, [.int (Int32.ofNat o2), .int (Int32.ofNat s2), .ref 116, .ref 117, .ref 118, .ref 119])), (116, wrd ws2), (117, ia sl2), (118, ia nb2)])) rfl rfl rfl rfl hlen rfl rfl rfl ((h.1 H hlen).up (by omega)) rfl ?_
        refine RT_step (pc2 := 9) rfl (fun _ _ => rfl) ?_
        refine rt_ico rfl ki_0 ?_
        refine RT_step (pc2 := 12) rfl (fun _ _ => rfl) ?_
        exact g1 H _ hlen rfl rfl rfl rfl rfl rfl
      · refine FR_st2 (l2 := ((180, M4) :: (181, mtl ts) :: [(182, ia nw), (187, lng nz), (202, ia nl4)])) rfl rfl rfl ?_
        refine RT_step (pc2 := 1) rfl (fun _ _ => rfl) ?_
        refine ow_iv1 (l2 := ((180, mcl (Int32.ofNat 0) (Int32.ofNat 0) n lim a2 pl2 (km kd2) nm2 sg2 (Int32.ofNat 0) qm2 wd2 td2 (posn vs nn2 o2 wi tp2)) :: (181, mtl ts) :: [(182, ia nw), (187, lng nz), (202, ia nl2)])) rfl rfl rfl rfl hlen rfl rfl rfl ((h.2 H hlen).up (by omega)) rfl ?_
        refine bcF_ne rfl (by decide) ?_
        refine RT_step (pc2 := 10) rfl (fun _ _ => rfl) ?_
        refine ow_gf rfl rfl rfl hlen rfl ?_
        refine RT_step (pc2 := 14) rfl (fun _ _ => rfl) ?_
        exact g2 H _ hlen rfl rfl
theorem so_up13_115 {bs ts : List Int32} {vs : Nat → Value} {n lim : Nat} {P : Nat} {Dn : Nat} {lw : Int32} {cl : Int32} {id : Int32} {gl : Nat} {bo : Nat} {pn : List Int64} {ri : List Int32} {lf : List Int32} {wa : List Int32} {fo : List Int32} {dn : List Int64} {ha : List Int32} {pa : List Int32} {bl : List Int32} {nw : List Int32} {nz : List Int64} {kx x ky m wi kx2 ky2 : Nat} {Ax : List Value} (h : SO13_115 bs ts vs n lim P Dn lw cl id gl bo pn ri lf wa fo dn ha pa bl nw nz kx x Ax ky m wi) (h1 : kx ≤ kx2) (h2 : ky ≤ ky2) : SO13_115 bs ts vs n lim P Dn lw cl id gl bo pn ri lf wa fo dn ha pa bl nw nz kx2 x Ax ky2 m wi := by
  intro k a kd pl w le nu tk td fp nm sg qm wd o s nn tp ws sgl nbl nl t ho hnn htp sx ln
  rcases h k a kd pl w le nu tk td fp nm sg qm wd o s nn tp ws sgl nbl nl t ho hnn htp sx ln with ⟨T, M, o2, s2, nn2, tp2, ws2, sl2, nb2, nl2, f, sx2, g⟩ | ⟨k2, tk2, td2, T2, M2, o2, s2, nn2, tp2, ws2, sl2, nb2, nl2, c2, o1, o2b, on, tp2b, sx2, ln2, g⟩
  · exact Or.inl ⟨T, M, o2, s2, nn2, tp2, ws2, sl2, nb2, nl2, f, sx2, fun H hlen => (g.1 H hlen).up h1, fun H hlen => (g.2 H hlen).up h2⟩
  · exact Or.inr ⟨k2, tk2, td2, T2, M2, o2, s2, nn2, tp2, ws2, sl2, nb2, nl2, c2, o1, o2b, on, tp2b, sx2, ln2, fun H hlen => (g.1 H hlen).up h1, fun H hlen => (g.2 H hlen).up h2⟩
theorem so_all13_115 {B : Nat → Nat} {bs ts : List Int32} {vs : Nat → Value} {n lim : Nat} {P : Nat} {Dn : Nat} {lw : Int32} {cl : Int32} {id : Int32} {gl : Nat} {bo : Nat} {pn : List Int64} {ri : List Int32} {lf : List Int32} {wa : List Int32} {fo : List Int32} {dn : List Int64} {ha : List Int32} {pa : List Int32} {bl : List Int32} {nw : List Int32} {nz : List Int64} (hB : BY bs B) (hM : MY ts B) (hb : ∀ i, B i < 256) (hn : n ≤ 940) (hl : lim ≤ 940) (hP : P ≤ 7) (lp : pn.length = 7) (lz : nz.length = 15) (hv : nw[0]? = some (Int32.ofNat P)) (hN : ∀ i, i < P → ∃ ss, nok ss ∧ pn[i]? = some (p5 ss) ∧ nz[0 + i]? = some (p27 ss)) : ∀ (r wi : Nat), wi + r = 8 → SO13_115 bs ts vs n lim P Dn lw cl id gl bo pn ri lf wa fo dn ha pa bl nw nz (16 * r + 8) 145 [.ref 115, .ref 1, .ref 13, .int (Int32.ofNat (wi + 1))] (18 * r + 10) 266 wi := by
  intro r
  induction r with
  | zero => intro wi hi; exact so1_13_115 (KX := 0) (KY := 0) hB hM hb hn hl hP lp lz hv hN (by omega) (fun h => by omega) (fun h => by omega)
  | succ r ih =>
    intro wi hi
    have h1 := ih (wi + 1) (by omega)
    have h2 := rc13_115 hB hM hb hn hl (ra13_115 hB hM hb hn hl h1)
    refine so_up13_115 (so1_13_115 (KX := 16 * r + 16) (KY := 18 * r + 18) hB hM hb hn hl hP lp lz hv hN (by omega) (fun _ => so_up13_115 h2 (by omega) (by omega)) (fun _ => so_up13_115 h1 (by omega) (by omega))) (by omega) (by omega)
