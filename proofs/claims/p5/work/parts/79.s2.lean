/-! ===== the leaves of a SENTENCE: to PERSON, a measure ===== -/
theorem sgn3 {a b c : Bool} (h : a = true ∨ b = true ∨ c = true) : a = true ∨ (a = false ∧ b = true) ∨ (a = false ∧ b = false ∧ c = true) := by
  cases a <;> cases b <;> cases c <;> simp_all
def LSn (kx x : Nat) (Ax : List Value) (ky m : Nat) (Am : List Value) (X R : List (Nat × AE)) (rx rm : Value) (dX dR : List (Nat × AE)) : Prop := (∀ H : List AE, Nat.ble 204 H.length = true → FR kx x Ax (ov H X) (some rx, ov (ov H X) dX)) ∧ ∀ H : List AE, Nat.ble 204 H.length = true → FR ky m Am (ov H R) (some rm, ov (ov H R) dR)
theorem st3_110 {B : Nat → Nat} {bs ts : List Int32} {vs : Nat → Value} {n lim : Nat} {k a kd pl w : Nat} {le : Int64} {nu tk td fp nm sg qm : Int32} {wd : Int64} {o s nn wi tp : Nat} {ws : List (Option Nat)} {sgl nbl nl nw : List Int32} {nz : List Int64} {P : Nat} {Dn : Nat} {lw : Int32} {cl : Int32} {id : Int32} {gl : Nat} {bo : Nat} {pn : List Int64} {ri : List Int32} {lf : List Int32} {wa : List Int32} {fo : List Int32} {dn : List Int64} {ha : List Int32} {pa : List Int32} {bl : List Int32} (hB : BY bs B) (hM : MY ts B) (hb : ∀ i, B i < 256) (hn : n ≤ 940) (hl : lim ≤ 940) (t : TF k n a kd w le nu nm sg wd) (hP : P ≤ 7) (lp : pn.length = 7) (lz : nz.length = 15) (hv : nw[0]? = some (Int32.ofNat P)) (hN : ∀ i, i < P → ∃ ss, nok ss ∧ pn[i]? = some (p5 ss) ∧ nz[0 + i]? = some (p27 ss)) (sx : SX s ws sgl nbl) (ln : nl.length = 240) (hd : nn < 60) (ho : o ≤ 20) (hw8 : wi ≤ 8) : (∃ T M, FC n lim (posn vs nn o wi tp) T M ∧ LSn 4 146 [.ref 110, .ref 1, .ref 3] 5 261 [.ref 180, .int (Int32.ofNat 25)] ((1, tcl n lim a kd pl w le nu tk (Int32.ofNat 0) fp) :: (2, bcl bs) :: [(3, dcl3 P Dn lw cl id gl bo), (4, lng pn), (5, ia ri), (6, ia lf), (7, ia wa), (8, ia fo), (9, lng dn), (10, ia ha), (11, ia pa), (12, ia bl), (110, .inr (7, [.int (Int32.ofNat o), .int (Int32.ofNat s), .ref 111, .ref 112, .ref 113, .ref 114])), (111, wrd ws), (112, ia sgl), (113, ia nbl)]) ((180, mcl (Int32.ofNat 0) (Int32.ofNat 0) n lim a pl (km kd) nm sg (Int32.ofNat 0) qm wd td (posn vs nn o wi tp)) :: (181, mtl ts) :: [(182, ia nw), (187, lng nz), (202, ia nl)]) (.int (Int32.ofNat 0)) (.int (Int32.ofNat 0)) [(1, T), (110, .inr (7, [.int (Int32.ofNat o), .int (Int32.ofNat s), .ref 111, .ref 112, .ref 113, .ref 114])), (111, wrd ws), (112, ia sgl), (113, ia nbl)] [(180, M), (202, ia nl)]) ∨ (∃ (tk2 td2 : Int32) (T M : AE) (s2 : Nat) (ws2 : List (Option Nat)) (sl2 nb2 nl2 : List Int32), TC n lim (posn vs (nn + 1) o wi nn) (k + 1) tk2 td2 T M ∧ SX s2 ws2 sl2 nb2 ∧ nl2.length = 240 ∧ LSn 4 146 [.ref 110, .ref 1, .ref 3] 5 261 [.ref 180, .int (Int32.ofNat 25)] ((1, tcl n lim a kd pl w le nu tk (Int32.ofNat 0) fp) :: (2, bcl bs) :: [(3, dcl3 P Dn lw cl id gl bo), (4, lng pn), (5, ia ri), (6, ia lf), (7, ia wa), (8, ia fo), (9, lng dn), (10, ia ha), (11, ia pa), (12, ia bl), (110, .inr (7, [.int (Int32.ofNat o), .int (Int32.ofNat s), .ref 111, .ref 112, .ref 113, .ref 114])), (111, wrd ws), (112, ia sgl), (113, ia nbl)]) ((180, mcl (Int32.ofNat 0) (Int32.ofNat 0) n lim a pl (km kd) nm sg (Int32.ofNat 0) qm wd td (posn vs nn o wi tp)) :: (181, mtl ts) :: [(182, ia nw), (187, lng nz), (202, ia nl)]) (.int (Int32.ofNat 1)) (.int (Int32.ofNat 1)) [(1, T), (110, .inr (7, [.int (Int32.ofNat o), .int (Int32.ofNat s2), .ref 111, .ref 112, .ref 113, .ref 114])), (111, wrd ws2), (112, ia sl2), (113, ia nb2)] [(180, M), (202, ia nl2)]) := by
  have hk := (km_is kd t.2.2.2.1).2.2.2.2.2
  have hw := t.2.2.2.2.1
  by_cases c : w = 1
  · have hk1 := w_k1 t (by omega)
    obtain ⟨rs, r1, r2, r3, r4, r5, r6⟩ := t.2.2.2.2.2.1 hk1
    have hr : nok rs := ⟨r1, r2, r3⟩
    have hnm : (Nat.beq (km kd) 2 && nmB wd 30 0) = true := by rw [w_nm t, c]; rfl
    have q1 := nm_eq hr hN
    rw [← r4, ← r5] at q1
    cases e1 : fd pn le 0 P 0 with
    | some j =>
      have hj := (fd_lt e1).2
      have e2 := q1.symm.trans e1
      obtain ⟨T1, M1, c1, x1, m1⟩ := s_adv hB hM hb hn hl (po := (posn vs nn o wi tp)) (pl := pl) (tk := tk) (td := (Int32.ofNat j)) (fp := fp) (plM := qm) t (by omega) (by omega)
      obtain ⟨a1, kd1, pl1, w1, le1, nu1, fp1, nm1, sg1, qm1, wd1, rfl, rfl, t1⟩ := c1
      obtain ⟨s2, ws2, sl2, nb2, sx2, hadd⟩ := sx_add110 sx (w := 27) (by decide) (Int32.ofNat 61) (Int32.ofNat j)
      refine Or.inr ⟨tk, (Int32.ofNat j), tcl n lim a1 kd1 pl1 w1 le1 nu1 tk (Int32.ofNat 0) fp1, mcl (Int32.ofNat 0) (Int32.ofNat 0) n lim a1 pl1 (km kd1) nm1 sg1 (Int32.ofNat 0) qm1 wd1 (Int32.ofNat j) (posn vs (nn + 1) o wi nn), s2, ws2, sl2, nb2, ((((nl.set (4 * nn) (Int32.ofNat 75)).set (4 * nn + 1) (Int32.ofNat j)).set (4 * nn + 2) (Int32.ofNat 0)).set (4 * nn + 3) (Int32.ofNat 0)), tf_td t1, sx2, (by simp only [List.length_set]; exact ln), fun H hlen => ?_, fun H hlen => ?_⟩
      · have hz : FR 2 71 [.ref 1, .ref 4, .int (Int32.ofNat P)] (ov H ((1, tcl n lim a kd pl w le nu tk (Int32.ofNat 0) fp) :: (2, bcl bs) :: [(3, dcl3 P Dn lw cl id gl bo), (4, lng pn), (5, ia ri), (6, ia lf), (7, ia wa), (8, ia fo), (9, lng dn), (10, ia ha), (11, ia pa), (12, ia bl), (110, .inr (7, [.int (Int32.ofNat o), .int (Int32.ofNat s), .ref 111, .ref 112, .ref 113, .ref 114])), (111, wrd ws), (112, ia sgl), (113, ia nbl)])) (some (.int (Int32.ofNat j)), ov (ov H ((1, tcl n lim a kd pl w le nu tk (Int32.ofNat 0) fp) :: (2, bcl bs) :: [(3, dcl3 P Dn lw cl id gl bo), (4, lng pn), (5, ia ri), (6, ia lf), (7, ia wa), (8, ia fo), (9, lng dn), (10, ia ha), (11, ia pa), (12, ia bl), (110, .inr (7, [.int (Int32.ofNat o), .int (Int32.ofNat s), .ref 111, .ref 112, .ref 113, .ref 114])), (111, wrd ws), (112, ia sgl), (113, ia nbl)])) [(1, tcl n lim a kd pl w le nu tk (Int32.ofNat 0) fp)]) := by
          refine FR_st2 (l2 := ((1, tcl n lim a kd pl w le nu tk (Int32.ofNat 0) fp) :: (2, bcl bs) :: [(3, dcl3 P Dn lw cl id gl bo), (4, lng pn), (5, ia ri), (6, ia lf), (7, ia wa), (8, ia fo), (9, lng dn), (10, ia ha), (11, ia pa), (12, ia bl), (110, .inr (7, [.int (Int32.ofNat o), .int (Int32.ofNat s), .ref 111, .ref 112, .ref 113, .ref 114])), (111, wrd ws), (112, ia sgl), (113, ia nbl)])) rfl rfl rfl ?_
          refine RT_step (pc2 := 1) rfl (fun _ _ => rfl) ?_
          refine ow_gf rfl rfl rfl hlen rfl ?_
          refine RT_step (pc2 := 7) rfl (fun _ _ => rfl) ?_
          refine rt_acE rfl (by omega) (by omega) ?_
          refine RT_if c ?_
          refine RT_step (pc2 := 19) rfl (fun _ _ => rfl) ?_
          refine RT_step (pc2 := 20) rfl (fun _ _ => rfl) ?_
          refine RT_step (pc2 := 21) rfl (fun _ _ => rfl) ?_
          refine ow_gf rfl rfl rfl hlen rfl ?_
          refine ow_is1 rfl rfl rfl rfl rfl ((x_find4 (ov_hl hlen) (ov_at rfl (ov_lt hlen (by decide))) (by omega) (by omega)).up (by decide)) rfl ?_
          rw [show fdI (fd pn le 0 P 0) = Int32.ofNat j from by rw [e1]; rfl]
          refine RT_step (pc2 := 28) rfl (fun _ _ => rfl) ?_
          refine RT_step (pc2 := 29) rfl (fun _ _ => rfl) ?_
          refine rt_ico rfl ki_m1 ?_
          refine biF_ne rfl (n_m1 (by omega)) ?_
          refine RT_step (pc2 := 40) rfl (fun _ _ => rfl) ?_
          exact ow_irt rfl rfl rfl
        have hy : FR 3 73 [.ref 3, .ref 1] (ov H ((1, tcl n lim a kd pl w le nu tk (Int32.ofNat 0) fp) :: (2, bcl bs) :: [(3, dcl3 P Dn lw cl id gl bo), (4, lng pn), (5, ia ri), (6, ia lf), (7, ia wa), (8, ia fo), (9, lng dn), (10, ia ha), (11, ia pa), (12, ia bl), (110, .inr (7, [.int (Int32.ofNat o), .int (Int32.ofNat s), .ref 111, .ref 112, .ref 113, .ref 114])), (111, wrd ws), (112, ia sgl), (113, ia nbl)])) (some (.int (Int32.ofNat j)), ov (ov H ((1, tcl n lim a kd pl w le nu tk (Int32.ofNat 0) fp) :: (2, bcl bs) :: [(3, dcl3 P Dn lw cl id gl bo), (4, lng pn), (5, ia ri), (6, ia lf), (7, ia wa), (8, ia fo), (9, lng dn), (10, ia ha), (11, ia pa), (12, ia bl), (110, .inr (7, [.int (Int32.ofNat o), .int (Int32.ofNat s), .ref 111, .ref 112, .ref 113, .ref 114])), (111, wrd ws), (112, ia sgl), (113, ia nbl)])) [(1, tcl n lim a kd pl w le nu tk (Int32.ofNat 0) fp)]) := by
          refine FR_st2 (l2 := ((1, tcl n lim a kd pl w le nu tk (Int32.ofNat 0) fp) :: (2, bcl bs) :: [(3, dcl3 P Dn lw cl id gl bo), (4, lng pn), (5, ia ri), (6, ia lf), (7, ia wa), (8, ia fo), (9, lng dn), (10, ia ha), (11, ia pa), (12, ia bl), (110, .inr (7, [.int (Int32.ofNat o), .int (Int32.ofNat s), .ref 111, .ref 112, .ref 113, .ref 114])), (111, wrd ws), (112, ia sgl), (113, ia nbl)])) rfl rfl rfl ?_
          refine RT_step (pc2 := 1) rfl (fun _ _ => rfl) ?_
          refine RT_step (pc2 := 2) rfl (fun _ _ => rfl) ?_
          refine ow_gf rfl rfl rfl hlen rfl ?_
          refine RT_step (pc2 := 6) rfl (fun _ _ => rfl) ?_
          refine ow_gf rfl rfl rfl hlen rfl ?_
          refine ow_is1 (l2 := ((1, tcl n lim a kd pl w le nu tk (Int32.ofNat 0) fp) :: (2, bcl bs) :: [(3, dcl3 P Dn lw cl id gl bo), (4, lng pn), (5, ia ri), (6, ia lf), (7, ia wa), (8, ia fo), (9, lng dn), (10, ia ha), (11, ia pa), (12, ia bl), (110, .inr (7, [.int (Int32.ofNat o), .int (Int32.ofNat s), .ref 111, .ref 112, .ref 113, .ref 114])), (111, wrd ws), (112, ia sgl), (113, ia nbl)])) rfl rfl rfl rfl rfl (hz.up (by decide)) rfl ?_
          exact ow_irt rfl rfl rfl
        refine FR_st2 (l2 := ((1, tcl n lim a1 kd1 pl1 w1 le1 nu1 tk (Int32.ofNat 0) fp1) :: (2, bcl bs) :: [(3, dcl3 P Dn lw cl id gl bo), (4, lng pn), (5, ia ri), (6, ia lf), (7, ia wa), (8, ia fo), (9, lng dn), (10, ia ha), (11, ia pa), (12, ia bl), (110, .inr (7, [.int (Int32.ofNat o), .int (Int32.ofNat s2), .ref 111, .ref 112, .ref 113, .ref 114])), (111, wrd ws2), (112, ia sl2), (113, ia nb2)])) rfl rfl rfl ?_
        refine RT_step (pc2 := 1) rfl (fun _ _ => rfl) ?_
        refine RT_step (pc2 := 2) rfl (fun _ _ => rfl) ?_
        refine ow_iv1 (l2 := ((1, tcl n lim a kd pl w le nu tk (Int32.ofNat 0) fp) :: (2, bcl bs) :: [(3, dcl3 P Dn lw cl id gl bo), (4, lng pn), (5, ia ri), (6, ia lf), (7, ia wa), (8, ia fo), (9, lng dn), (10, ia ha), (11, ia pa), (12, ia bl), (110, .inr (7, [.int (Int32.ofNat o), .int (Int32.ofNat s), .ref 111, .ref 112, .ref 113, .ref 114])), (111, wrd ws), (112, ia sgl), (113, ia nbl)])) rfl rfl rfl rfl hlen rfl rfl rfl (hy.up (by decide)) rfl ?_
        refine RT_step (pc2 := 6) rfl (fun _ _ => rfl) ?_
        refine RT_step (pc2 := 7) rfl (fun _ _ => rfl) ?_
        refine rt_ico rfl ki_m1 ?_
        refine biF_ne rfl (n_m1 (by omega)) ?_
        refine RT_step (pc2 := 14) rfl (fun _ _ => rfl) ?_
        refine RT_step (pc2 := 17) rfl (fun _ _ => rfl) ?_
        refine rt_bip rfl k8_61 ?_
        refine RT_step (pc2 := 20) rfl (fun _ _ => rfl) ?_
        refine ow_iv0 (l2 := ((1, tcl n lim a kd pl w le nu tk (Int32.ofNat 0) fp) :: (2, bcl bs) :: [(3, dcl3 P Dn lw cl id gl bo), (4, lng pn), (5, ia ri), (6, ia lf), (7, ia wa), (8, ia fo), (9, lng dn), (10, ia ha), (11, ia pa), (12, ia bl), (110, .inr (7, [.int (Int32.ofNat o), .int (Int32.ofNat s2), .ref 111, .ref 112, .ref 113, .ref 114])), (111, wrd ws2), (112, ia sl2), (113, ia nb2)])) rfl rfl rfl rfl hlen rfl rfl rfl ((hadd _ _ (ov_hl hlen) (ov_at rfl (ov_lt hlen (by decide))) (ov_at rfl (ov_lt hlen (by decide))) (ov_at rfl (ov_lt hlen (by decide))) (ov_at rfl (ov_lt hlen (by decide)))).up (by decide)) rfl ?_
        refine RT_step (pc2 := 24) rfl (fun _ _ => rfl) ?_
        refine ow_iv0 (l2 := ((1, tcl n lim a1 kd1 pl1 w1 le1 nu1 tk (Int32.ofNat 0) fp1) :: (2, bcl bs) :: [(3, dcl3 P Dn lw cl id gl bo), (4, lng pn), (5, ia ri), (6, ia lf), (7, ia wa), (8, ia fo), (9, lng dn), (10, ia ha), (11, ia pa), (12, ia bl), (110, .inr (7, [.int (Int32.ofNat o), .int (Int32.ofNat s2), .ref 111, .ref 112, .ref 113, .ref 114])), (111, wrd ws2), (112, ia sl2), (113, ia nb2)])) rfl rfl rfl rfl hlen rfl rfl rfl ((x1 _ (ov_hl hlen) (ov_at rfl (ov_lt hlen (by decide))) (ov_at rfl (ov_lt hlen (by decide)))).up (by decide)) rfl ?_
        refine rt_ico rfl ki_1 ?_
        exact ow_irt rfl rfl rfl
      · have hy : FR 4 257 [.ref 180, .int (Int32.ofNat 0), .int (Int32.ofNat P)] (ov H ((180, mcl (Int32.ofNat 0) (Int32.ofNat 0) n lim a pl (km kd) nm sg (Int32.ofNat 0) qm wd td (posn vs nn o wi tp)) :: (181, mtl ts) :: [(182, ia nw), (187, lng nz), (202, ia nl)])) (some (.int (Int32.ofNat 1)), ov (ov H ((180, mcl (Int32.ofNat 0) (Int32.ofNat 0) n lim a pl (km kd) nm sg (Int32.ofNat 0) qm wd td (posn vs nn o wi tp)) :: (181, mtl ts) :: [(182, ia nw), (187, lng nz), (202, ia nl)])) [(180, mcl (Int32.ofNat 0) (Int32.ofNat 0) n lim a1 pl1 (km kd1) nm1 sg1 (Int32.ofNat 0) qm1 wd1 (Int32.ofNat j) (posn vs nn o wi tp))]) := by
          refine FR_st2 (l2 := ((180, mcl (Int32.ofNat 0) (Int32.ofNat 0) n lim a1 pl1 (km kd1) nm1 sg1 (Int32.ofNat 0) qm1 wd1 (Int32.ofNat j) (posn vs nn o wi tp)) :: (181, mtl ts) :: [(182, ia nw), (187, lng nz), (202, ia nl)])) rfl rfl rfl ?_
          refine RT_step (pc2 := 1) rfl (fun _ _ => rfl) ?_
          refine ow_iv1 rfl rfl rfl rfl hlen rfl rfl rfl ((m_isName (ov_hl hlen) (ov_at rfl (ov_lt hlen (by decide))) hk).up (by decide)) rfl ?_
          refine bcF_ne rfl (b01_t hnm) ?_
          refine RT_step (pc2 := 14) rfl (fun _ _ => rfl) ?_
          refine RT_step (pc2 := 15) rfl (fun _ _ => rfl) ?_
          refine ow_gf rfl rfl rfl hlen rfl ?_
          refine RT_step (pc2 := 19) rfl (fun _ _ => rfl) ?_
          refine RT_step (pc2 := 20) rfl (fun _ _ => rfl) ?_
          refine RT_step (pc2 := 21) rfl (fun _ _ => rfl) ?_
          refine ow_gf rfl rfl rfl hlen rfl ?_
          refine ow_is1 rfl rfl rfl rfl rfl ((m_find7 (bs0 := 0) (cnt := P) (ov_hl hlen) (ov_at rfl (ov_lt hlen (by decide))) (by omega) (by omega)).up (by decide)) rfl ?_
          rw [show fdI (fd nz wd 0 P 0) = Int32.ofNat j from by rw [e2]; rfl]
          refine ow_pf (l2 := ((180, mcl (Int32.ofNat 0) (Int32.ofNat 0) n lim a pl (km kd) nm sg (Int32.ofNat 0) qm wd (Int32.ofNat j) (posn vs nn o wi tp)) :: (181, mtl ts) :: [(182, ia nw), (187, lng nz), (202, ia nl)])) rfl rfl rfl rfl rfl hlen rfl rfl ?_
          refine RT_step (pc2 := 31) rfl (fun _ _ => rfl) ?_
          refine ow_gf rfl rfl rfl hlen rfl ?_
          refine rt_ico rfl ki_m1 ?_
          refine biF_ne rfl (n_m1 (by omega)) ?_
          refine RT_step (pc2 := 45) rfl (fun _ _ => rfl) ?_
          refine ow_iv0 (l2 := ((180, mcl (Int32.ofNat 0) (Int32.ofNat 0) n lim a1 pl1 (km kd1) nm1 sg1 (Int32.ofNat 0) qm1 wd1 (Int32.ofNat j) (posn vs nn o wi tp)) :: (181, mtl ts) :: [(182, ia nw), (187, lng nz), (202, ia nl)])) rfl rfl rfl rfl hlen rfl rfl rfl ((m1 _ (ov_hl hlen) (ov_at rfl (ov_lt hlen (by decide))) (ov_at rfl (ov_lt hlen (by decide)))).up (by decide)) rfl ?_
          refine rt_ico rfl ki_1 ?_
          exact ow_irt rfl rfl rfl
        refine FR_st2 (l2 := ((180, mcl (Int32.ofNat 0) (Int32.ofNat 0) n lim a1 pl1 (km kd1) nm1 sg1 (Int32.ofNat 0) qm1 wd1 (Int32.ofNat j) (posn vs (nn + 1) o wi nn)) :: (181, mtl ts) :: [(182, ia nw), (187, lng nz), (202, ia ((((nl.set (4 * nn) (Int32.ofNat 75)).set (4 * nn + 1) (Int32.ofNat j)).set (4 * nn + 2) (Int32.ofNat 0)).set (4 * nn + 3) (Int32.ofNat 0)))])) rfl rfl rfl ?_
        refine RT_step (pc2 := 1) rfl (fun _ _ => rfl) ?_
        refine rt_ico rfl ki_0 ?_
        refine RT_step (pc2 := 3) rfl (fun _ _ => rfl) ?_
        refine ow_gf rfl rfl rfl hlen rfl ?_
        refine rt_ico rfl ki_0 ?_
        refine ow_ialN rfl rfl hv (by omega) hlen rfl ?_
        refine ow_iv1 (l2 := ((180, mcl (Int32.ofNat 0) (Int32.ofNat 0) n lim a1 pl1 (km kd1) nm1 sg1 (Int32.ofNat 0) qm1 wd1 (Int32.ofNat j) (posn vs nn o wi tp)) :: (181, mtl ts) :: [(182, ia nw), (187, lng nz), (202, ia nl)])) rfl rfl rfl rfl hlen rfl rfl rfl (hy.up (by decide)) rfl ?_
        refine bcF_ne rfl (by decide) ?_
        refine RT_step (pc2 := 17) rfl (fun _ _ => rfl) ?_
        refine RT_step (pc2 := 18) rfl (fun _ _ => rfl) ?_
        refine rt_bip rfl k8_50 ?_
        refine RT_step (pc2 := 21) rfl (fun _ _ => rfl) ?_
        refine ba_iadd rfl ?_
        rw [n_add]
        refine RT_step (pc2 := 23) rfl (fun _ _ => rfl) ?_
        refine ow_gf rfl rfl rfl hlen rfl ?_
        refine rt_ico rfl ki_0 ?_
        refine rt_ico rfl ki_0 ?_
        refine ow_iv1 (l2 := ((180, mcl (Int32.ofNat 0) (Int32.ofNat 0) n lim a1 pl1 (km kd1) nm1 sg1 (Int32.ofNat 0) qm1 wd1 (Int32.ofNat j) (posn vs (nn + 1) o wi tp)) :: (181, mtl ts) :: [(182, ia nw), (187, lng nz), (202, ia ((((nl.set (4 * nn) (Int32.ofNat 75)).set (4 * nn + 1) (Int32.ofNat j)).set (4 * nn + 2) (Int32.ofNat 0)).set (4 * nn + 3) (Int32.ofNat 0)))])) rfl rfl rfl rfl hlen rfl rfl rfl ((m_says (ov_hl hlen) (ov_at rfl (ov_lt hlen (by decide))) (ov_at rfl (ov_lt hlen (by decide))) ln hd).up (by decide)) rfl ?_
        refine ow_pf (l2 := ((180, mcl (Int32.ofNat 0) (Int32.ofNat 0) n lim a1 pl1 (km kd1) nm1 sg1 (Int32.ofNat 0) qm1 wd1 (Int32.ofNat j) (posn vs (nn + 1) o wi nn)) :: (181, mtl ts) :: [(182, ia nw), (187, lng nz), (202, ia ((((nl.set (4 * nn) (Int32.ofNat 75)).set (4 * nn + 1) (Int32.ofNat j)).set (4 * nn + 2) (Int32.ofNat 0)).set (4 * nn + 3) (Int32.ofNat 0)))])) rfl rfl rfl rfl rfl hlen rfl rfl ?_
        refine rt_ico rfl ki_1 ?_
        exact ow_irt rfl rfl rfl
    | none =>
      have e2 := q1.symm.trans e1
      obtain ⟨T, M, f, hx, hm⟩ := s_ref (bs := bs) (ts := ts) (lim := lim) (po := (posn vs nn o wi tp)) (pl := pl) (tk := tk) (td := (-1 : Int32)) (fp := fp) (plM := qm) t (kk := 3) (by decide) (by decide) (Or.inl (by omega))
      refine Or.inl ⟨T, M, f, fun H hlen => ?_, fun H hlen => ?_⟩
      · have hz : FR 2 71 [.ref 1, .ref 4, .int (Int32.ofNat P)] (ov H ((1, tcl n lim a kd pl w le nu tk (Int32.ofNat 0) fp) :: (2, bcl bs) :: [(3, dcl3 P Dn lw cl id gl bo), (4, lng pn), (5, ia ri), (6, ia lf), (7, ia wa), (8, ia fo), (9, lng dn), (10, ia ha), (11, ia pa), (12, ia bl), (110, .inr (7, [.int (Int32.ofNat o), .int (Int32.ofNat s), .ref 111, .ref 112, .ref 113, .ref 114])), (111, wrd ws), (112, ia sgl), (113, ia nbl)])) (some (.int (-1 : Int32)), ov (ov H ((1, tcl n lim a kd pl w le nu tk (Int32.ofNat 0) fp) :: (2, bcl bs) :: [(3, dcl3 P Dn lw cl id gl bo), (4, lng pn), (5, ia ri), (6, ia lf), (7, ia wa), (8, ia fo), (9, lng dn), (10, ia ha), (11, ia pa), (12, ia bl), (110, .inr (7, [.int (Int32.ofNat o), .int (Int32.ofNat s), .ref 111, .ref 112, .ref 113, .ref 114])), (111, wrd ws), (112, ia sgl), (113, ia nbl)])) [(1, T)]) := by
          refine FR_st2 (l2 := ((1, T) :: (2, bcl bs) :: [(3, dcl3 P Dn lw cl id gl bo), (4, lng pn), (5, ia ri), (6, ia lf), (7, ia wa), (8, ia fo), (9, lng dn), (10, ia ha), (11, ia pa), (12, ia bl), (110, .inr (7, [.int (Int32.ofNat o), .int (Int32.ofNat s), .ref 111, .ref 112, .ref 113, .ref 114])), (111, wrd ws), (112, ia sgl), (113, ia nbl)])) rfl rfl rfl ?_
          refine RT_step (pc2 := 1) rfl (fun _ _ => rfl) ?_
          refine ow_gf rfl rfl rfl hlen rfl ?_
          refine RT_step (pc2 := 7) rfl (fun _ _ => rfl) ?_
          refine rt_acE rfl (by omega) (by omega) ?_
          refine RT_if c ?_
          refine RT_step (pc2 := 19) rfl (fun _ _ => rfl) ?_
          refine RT_step (pc2 := 20) rfl (fun _ _ => rfl) ?_
          refine RT_step (pc2 := 21) rfl (fun _ _ => rfl) ?_
          refine ow_gf rfl rfl rfl hlen rfl ?_
          refine ow_is1 rfl rfl rfl rfl rfl ((x_find4 (ov_hl hlen) (ov_at rfl (ov_lt hlen (by decide))) (by omega) (by omega)).up (by decide)) rfl ?_
          rw [show fdI (fd pn le 0 P 0) = (-1 : Int32) from by rw [e1]; rfl]
          refine RT_step (pc2 := 28) rfl (fun _ _ => rfl) ?_
          refine RT_step (pc2 := 29) rfl (fun _ _ => rfl) ?_
          refine rt_ico rfl ki_m1 ?_
          refine biT_ne rfl rfl ?_
          refine RT_step (pc2 := 34) rfl (fun _ _ => rfl) ?_
          refine rt_ico rfl ki_3 ?_
          refine ow_iv1 rfl rfl rfl rfl hlen rfl rfl rfl ((hx _ (ov_hl hlen) (ov_at rfl (ov_lt hlen (by decide))) (ov_at rfl (ov_lt hlen (by decide)))).up (by decide)) rfl ?_
          refine RT_step (pc2 := 39) rfl (fun _ _ => rfl) ?_
          refine RT_step (pc2 := 40) rfl (fun _ _ => rfl) ?_
          exact ow_irt rfl rfl rfl
        have hy : FR 3 73 [.ref 3, .ref 1] (ov H ((1, tcl n lim a kd pl w le nu tk (Int32.ofNat 0) fp) :: (2, bcl bs) :: [(3, dcl3 P Dn lw cl id gl bo), (4, lng pn), (5, ia ri), (6, ia lf), (7, ia wa), (8, ia fo), (9, lng dn), (10, ia ha), (11, ia pa), (12, ia bl), (110, .inr (7, [.int (Int32.ofNat o), .int (Int32.ofNat s), .ref 111, .ref 112, .ref 113, .ref 114])), (111, wrd ws), (112, ia sgl), (113, ia nbl)])) (some (.int (-1 : Int32)), ov (ov H ((1, tcl n lim a kd pl w le nu tk (Int32.ofNat 0) fp) :: (2, bcl bs) :: [(3, dcl3 P Dn lw cl id gl bo), (4, lng pn), (5, ia ri), (6, ia lf), (7, ia wa), (8, ia fo), (9, lng dn), (10, ia ha), (11, ia pa), (12, ia bl), (110, .inr (7, [.int (Int32.ofNat o), .int (Int32.ofNat s), .ref 111, .ref 112, .ref 113, .ref 114])), (111, wrd ws), (112, ia sgl), (113, ia nbl)])) [(1, T)]) := by
          refine FR_st2 (l2 := ((1, T) :: (2, bcl bs) :: [(3, dcl3 P Dn lw cl id gl bo), (4, lng pn), (5, ia ri), (6, ia lf), (7, ia wa), (8, ia fo), (9, lng dn), (10, ia ha), (11, ia pa), (12, ia bl), (110, .inr (7, [.int (Int32.ofNat o), .int (Int32.ofNat s), .ref 111, .ref 112, .ref 113, .ref 114])), (111, wrd ws), (112, ia sgl), (113, ia nbl)])) rfl rfl rfl ?_
          refine RT_step (pc2 := 1) rfl (fun _ _ => rfl) ?_
          refine RT_step (pc2 := 2) rfl (fun _ _ => rfl) ?_
          refine ow_gf rfl rfl rfl hlen rfl ?_
          refine RT_step (pc2 := 6) rfl (fun _ _ => rfl) ?_
          refine ow_gf rfl rfl rfl hlen rfl ?_
          refine ow_is1 (l2 := ((1, T) :: (2, bcl bs) :: [(3, dcl3 P Dn lw cl id gl bo), (4, lng pn), (5, ia ri), (6, ia lf), (7, ia wa), (8, ia fo), (9, lng dn), (10, ia ha), (11, ia pa), (12, ia bl), (110, .inr (7, [.int (Int32.ofNat o), .int (Int32.ofNat s), .ref 111, .ref 112, .ref 113, .ref 114])), (111, wrd ws), (112, ia sgl), (113, ia nbl)])) rfl rfl rfl rfl rfl (hz.up (by decide)) rfl ?_
          exact ow_irt rfl rfl rfl
        refine FR_st2 (l2 := ((1, T) :: (2, bcl bs) :: [(3, dcl3 P Dn lw cl id gl bo), (4, lng pn), (5, ia ri), (6, ia lf), (7, ia wa), (8, ia fo), (9, lng dn), (10, ia ha), (11, ia pa), (12, ia bl), (110, .inr (7, [.int (Int32.ofNat o), .int (Int32.ofNat s), .ref 111, .ref 112, .ref 113, .ref 114])), (111, wrd ws), (112, ia sgl), (113, ia nbl)])) rfl rfl rfl ?_
        refine RT_step (pc2 := 1) rfl (fun _ _ => rfl) ?_
        refine RT_step (pc2 := 2) rfl (fun _ _ => rfl) ?_
        refine ow_iv1 (l2 := ((1, T) :: (2, bcl bs) :: [(3, dcl3 P Dn lw cl id gl bo), (4, lng pn), (5, ia ri), (6, ia lf), (7, ia wa), (8, ia fo), (9, lng dn), (10, ia ha), (11, ia pa), (12, ia bl), (110, .inr (7, [.int (Int32.ofNat o), .int (Int32.ofNat s), .ref 111, .ref 112, .ref 113, .ref 114])), (111, wrd ws), (112, ia sgl), (113, ia nbl)])) rfl rfl rfl rfl hlen rfl rfl rfl (hy.up (by decide)) rfl ?_
        refine RT_step (pc2 := 6) rfl (fun _ _ => rfl) ?_
        refine RT_step (pc2 := 7) rfl (fun _ _ => rfl) ?_
        refine rt_ico rfl ki_m1 ?_
        refine biT_ne rfl rfl ?_
        refine rt_ico rfl ki_0 ?_
        exact ow_irt rfl rfl rfl
      · have hy : FR 4 257 [.ref 180, .int (Int32.ofNat 0), .int (Int32.ofNat P)] (ov H ((180, mcl (Int32.ofNat 0) (Int32.ofNat 0) n lim a pl (km kd) nm sg (Int32.ofNat 0) qm wd td (posn vs nn o wi tp)) :: (181, mtl ts) :: [(182, ia nw), (187, lng nz), (202, ia nl)])) (some (.int (Int32.ofNat 0)), ov (ov H ((180, mcl (Int32.ofNat 0) (Int32.ofNat 0) n lim a pl (km kd) nm sg (Int32.ofNat 0) qm wd td (posn vs nn o wi tp)) :: (181, mtl ts) :: [(182, ia nw), (187, lng nz), (202, ia nl)])) [(180, M)]) := by
          refine FR_st2 (l2 := ((180, M) :: (181, mtl ts) :: [(182, ia nw), (187, lng nz), (202, ia nl)])) rfl rfl rfl ?_
          refine RT_step (pc2 := 1) rfl (fun _ _ => rfl) ?_
          refine ow_iv1 rfl rfl rfl rfl hlen rfl rfl rfl ((m_isName (ov_hl hlen) (ov_at rfl (ov_lt hlen (by decide))) hk).up (by decide)) rfl ?_
          refine bcF_ne rfl (b01_t hnm) ?_
          refine RT_step (pc2 := 14) rfl (fun _ _ => rfl) ?_
          refine RT_step (pc2 := 15) rfl (fun _ _ => rfl) ?_
          refine ow_gf rfl rfl rfl hlen rfl ?_
          refine RT_step (pc2 := 19) rfl (fun _ _ => rfl) ?_
          refine RT_step (pc2 := 20) rfl (fun _ _ => rfl) ?_
          refine RT_step (pc2 := 21) rfl (fun _ _ => rfl) ?_
          refine ow_gf rfl rfl rfl hlen rfl ?_
          refine ow_is1 rfl rfl rfl rfl rfl ((m_find7 (bs0 := 0) (cnt := P) (ov_hl hlen) (ov_at rfl (ov_lt hlen (by decide))) (by omega) (by omega)).up (by decide)) rfl ?_
          rw [show fdI (fd nz wd 0 P 0) = (-1 : Int32) from by rw [e2]; rfl]
          refine ow_pf (l2 := ((180, mcl (Int32.ofNat 0) (Int32.ofNat 0) n lim a pl (km kd) nm sg (Int32.ofNat 0) qm wd (-1 : Int32) (posn vs nn o wi tp)) :: (181, mtl ts) :: [(182, ia nw), (187, lng nz), (202, ia nl)])) rfl rfl rfl rfl rfl hlen rfl rfl ?_
          refine RT_step (pc2 := 31) rfl (fun _ _ => rfl) ?_
          refine ow_gf rfl rfl rfl hlen rfl ?_
          refine rt_ico rfl ki_m1 ?_
          refine biT_ne rfl rfl ?_
          refine RT_step (pc2 := 39) rfl (fun _ _ => rfl) ?_
          refine rt_ico rfl ki_3 ?_
          refine ow_iv1 (l2 := ((180, M) :: (181, mtl ts) :: [(182, ia nw), (187, lng nz), (202, ia nl)])) rfl rfl rfl rfl hlen rfl rfl rfl ((hm _ (ov_hl hlen) (ov_at rfl (ov_lt hlen (by decide))) (ov_at rfl (ov_lt hlen (by decide)))).up (by decide)) rfl ?_
          exact ow_irt rfl rfl rfl
        refine FR_st2 (l2 := ((180, M) :: (181, mtl ts) :: [(182, ia nw), (187, lng nz), (202, ia nl)])) rfl rfl rfl ?_
        refine RT_step (pc2 := 1) rfl (fun _ _ => rfl) ?_
        refine rt_ico rfl ki_0 ?_
        refine RT_step (pc2 := 3) rfl (fun _ _ => rfl) ?_
        refine ow_gf rfl rfl rfl hlen rfl ?_
        refine rt_ico rfl ki_0 ?_
        refine ow_ialN rfl rfl hv (by omega) hlen rfl ?_
        refine ow_iv1 (l2 := ((180, M) :: (181, mtl ts) :: [(182, ia nw), (187, lng nz), (202, ia nl)])) rfl rfl rfl rfl hlen rfl rfl rfl (hy.up (by decide)) rfl ?_
        refine bcT_ne rfl rfl ?_
        refine rt_ico rfl ki_0 ?_
        exact ow_irt rfl rfl rfl
  · have hnm : (Nat.beq (km kd) 2 && nmB wd 30 0) = false := by rw [w_nm t]; exact decide_eq_false c
    obtain ⟨T, M, f, hx, hm⟩ := s_ref (bs := bs) (ts := ts) (lim := lim) (po := (posn vs nn o wi tp)) (pl := pl) (tk := tk) (td := td) (fp := fp) (plM := qm) t (kk := 1) (by decide) (by decide) (Or.inr rfl)
    refine Or.inl ⟨T, M, f, fun H hlen => ?_, fun H hlen => ?_⟩
    · have hz : FR 2 71 [.ref 1, .ref 4, .int (Int32.ofNat P)] (ov H ((1, tcl n lim a kd pl w le nu tk (Int32.ofNat 0) fp) :: (2, bcl bs) :: [(3, dcl3 P Dn lw cl id gl bo), (4, lng pn), (5, ia ri), (6, ia lf), (7, ia wa), (8, ia fo), (9, lng dn), (10, ia ha), (11, ia pa), (12, ia bl), (110, .inr (7, [.int (Int32.ofNat o), .int (Int32.ofNat s), .ref 111, .ref 112, .ref 113, .ref 114])), (111, wrd ws), (112, ia sgl), (113, ia nbl)])) (some (.int (-1 : Int32)), ov (ov H ((1, tcl n lim a kd pl w le nu tk (Int32.ofNat 0) fp) :: (2, bcl bs) :: [(3, dcl3 P Dn lw cl id gl bo), (4, lng pn), (5, ia ri), (6, ia lf), (7, ia wa), (8, ia fo), (9, lng dn), (10, ia ha), (11, ia pa), (12, ia bl), (110, .inr (7, [.int (Int32.ofNat o), .int (Int32.ofNat s), .ref 111, .ref 112, .ref 113, .ref 114])), (111, wrd ws), (112, ia sgl), (113, ia nbl)])) [(1, T)]) := by
        refine FR_st2 (l2 := ((1, T) :: (2, bcl bs) :: [(3, dcl3 P Dn lw cl id gl bo), (4, lng pn), (5, ia ri), (6, ia lf), (7, ia wa), (8, ia fo), (9, lng dn), (10, ia ha), (11, ia pa), (12, ia bl), (110, .inr (7, [.int (Int32.ofNat o), .int (Int32.ofNat s), .ref 111, .ref 112, .ref 113, .ref 114])), (111, wrd ws), (112, ia sgl), (113, ia nbl)])) rfl rfl rfl ?_
        refine RT_step (pc2 := 1) rfl (fun _ _ => rfl) ?_
        refine ow_gf rfl rfl rfl hlen rfl ?_
        refine RT_step (pc2 := 7) rfl (fun _ _ => rfl) ?_
        refine rt_acE rfl (by omega) (by omega) ?_
        refine RT_el c ?_
        refine RT_step (pc2 := 11) rfl (fun _ _ => rfl) ?_
        refine rt_ico rfl ki_1 ?_
        refine ow_iv1 rfl rfl rfl rfl hlen rfl rfl rfl ((hx _ (ov_hl hlen) (ov_at rfl (ov_lt hlen (by decide))) (ov_at rfl (ov_lt hlen (by decide)))).up (by decide)) rfl ?_
        refine RT_step (pc2 := 16) rfl (fun _ _ => rfl) ?_
        refine rt_ico rfl ki_m1 ?_
        exact ow_irt rfl rfl rfl
      have hy : FR 3 73 [.ref 3, .ref 1] (ov H ((1, tcl n lim a kd pl w le nu tk (Int32.ofNat 0) fp) :: (2, bcl bs) :: [(3, dcl3 P Dn lw cl id gl bo), (4, lng pn), (5, ia ri), (6, ia lf), (7, ia wa), (8, ia fo), (9, lng dn), (10, ia ha), (11, ia pa), (12, ia bl), (110, .inr (7, [.int (Int32.ofNat o), .int (Int32.ofNat s), .ref 111, .ref 112, .ref 113, .ref 114])), (111, wrd ws), (112, ia sgl), (113, ia nbl)])) (some (.int (-1 : Int32)), ov (ov H ((1, tcl n lim a kd pl w le nu tk (Int32.ofNat 0) fp) :: (2, bcl bs) :: [(3, dcl3 P Dn lw cl id gl bo), (4, lng pn), (5, ia ri), (6, ia lf), (7, ia wa), (8, ia fo), (9, lng dn), (10, ia ha), (11, ia pa), (12, ia bl), (110, .inr (7, [.int (Int32.ofNat o), .int (Int32.ofNat s), .ref 111, .ref 112, .ref 113, .ref 114])), (111, wrd ws), (112, ia sgl), (113, ia nbl)])) [(1, T)]) := by
        refine FR_st2 (l2 := ((1, T) :: (2, bcl bs) :: [(3, dcl3 P Dn lw cl id gl bo), (4, lng pn), (5, ia ri), (6, ia lf), (7, ia wa), (8, ia fo), (9, lng dn), (10, ia ha), (11, ia pa), (12, ia bl), (110, .inr (7, [.int (Int32.ofNat o), .int (Int32.ofNat s), .ref 111, .ref 112, .ref 113, .ref 114])), (111, wrd ws), (112, ia sgl), (113, ia nbl)])) rfl rfl rfl ?_
        refine RT_step (pc2 := 1) rfl (fun _ _ => rfl) ?_
        refine RT_step (pc2 := 2) rfl (fun _ _ => rfl) ?_
        refine ow_gf rfl rfl rfl hlen rfl ?_
        refine RT_step (pc2 := 6) rfl (fun _ _ => rfl) ?_
        refine ow_gf rfl rfl rfl hlen rfl ?_
        refine ow_is1 (l2 := ((1, T) :: (2, bcl bs) :: [(3, dcl3 P Dn lw cl id gl bo), (4, lng pn), (5, ia ri), (6, ia lf), (7, ia wa), (8, ia fo), (9, lng dn), (10, ia ha), (11, ia pa), (12, ia bl), (110, .inr (7, [.int (Int32.ofNat o), .int (Int32.ofNat s), .ref 111, .ref 112, .ref 113, .ref 114])), (111, wrd ws), (112, ia sgl), (113, ia nbl)])) rfl rfl rfl rfl rfl (hz.up (by decide)) rfl ?_
        exact ow_irt rfl rfl rfl
      refine FR_st2 (l2 := ((1, T) :: (2, bcl bs) :: [(3, dcl3 P Dn lw cl id gl bo), (4, lng pn), (5, ia ri), (6, ia lf), (7, ia wa), (8, ia fo), (9, lng dn), (10, ia ha), (11, ia pa), (12, ia bl), (110, .inr (7, [.int (Int32.ofNat o), .int (Int32.ofNat s), .ref 111, .ref 112, .ref 113, .ref 114])), (111, wrd ws), (112, ia sgl), (113, ia nbl)])) rfl rfl rfl ?_
      refine RT_step (pc2 := 1) rfl (fun _ _ => rfl) ?_
      refine RT_step (pc2 := 2) rfl (fun _ _ => rfl) ?_
      refine ow_iv1 (l2 := ((1, T) :: (2, bcl bs) :: [(3, dcl3 P Dn lw cl id gl bo), (4, lng pn), (5, ia ri), (6, ia lf), (7, ia wa), (8, ia fo), (9, lng dn), (10, ia ha), (11, ia pa), (12, ia bl), (110, .inr (7, [.int (Int32.ofNat o), .int (Int32.ofNat s), .ref 111, .ref 112, .ref 113, .ref 114])), (111, wrd ws), (112, ia sgl), (113, ia nbl)])) rfl rfl rfl rfl hlen rfl rfl rfl (hy.up (by decide)) rfl ?_
      refine RT_step (pc2 := 6) rfl (fun _ _ => rfl) ?_
      refine RT_step (pc2 := 7) rfl (fun _ _ => rfl) ?_
      refine rt_ico rfl ki_m1 ?_
      refine biT_ne rfl rfl ?_
      refine rt_ico rfl ki_0 ?_
      exact ow_irt rfl rfl rfl
    · have hy : FR 4 257 [.ref 180, .int (Int32.ofNat 0), .int (Int32.ofNat P)] (ov H ((180, mcl (Int32.ofNat 0) (Int32.ofNat 0) n lim a pl (km kd) nm sg (Int32.ofNat 0) qm wd td (posn vs nn o wi tp)) :: (181, mtl ts) :: [(182, ia nw), (187, lng nz), (202, ia nl)])) (some (.int (Int32.ofNat 0)), ov (ov H ((180, mcl (Int32.ofNat 0) (Int32.ofNat 0) n lim a pl (km kd) nm sg (Int32.ofNat 0) qm wd td (posn vs nn o wi tp)) :: (181, mtl ts) :: [(182, ia nw), (187, lng nz), (202, ia nl)])) [(180, M)]) := by
        refine FR_st2 (l2 := ((180, M) :: (181, mtl ts) :: [(182, ia nw), (187, lng nz), (202, ia nl)])) rfl rfl rfl ?_
        refine RT_step (pc2 := 1) rfl (fun _ _ => rfl) ?_
        refine ow_iv1 rfl rfl rfl rfl hlen rfl rfl rfl ((m_isName (ov_hl hlen) (ov_at rfl (ov_lt hlen (by decide))) hk).up (by decide)) rfl ?_
        refine bcT_ne rfl (b01_f hnm) ?_
        refine RT_step (pc2 := 8) rfl (fun _ _ => rfl) ?_
        refine rt_ico rfl ki_1 ?_
        refine ow_iv1 (l2 := ((180, M) :: (181, mtl ts) :: [(182, ia nw), (187, lng nz), (202, ia nl)])) rfl rfl rfl rfl hlen rfl rfl rfl ((hm _ (ov_hl hlen) (ov_at rfl (ov_lt hlen (by decide))) (ov_at rfl (ov_lt hlen (by decide)))).up (by decide)) rfl ?_
        exact ow_irt rfl rfl rfl
      refine FR_st2 (l2 := ((180, M) :: (181, mtl ts) :: [(182, ia nw), (187, lng nz), (202, ia nl)])) rfl rfl rfl ?_
      refine RT_step (pc2 := 1) rfl (fun _ _ => rfl) ?_
      refine rt_ico rfl ki_0 ?_
      refine RT_step (pc2 := 3) rfl (fun _ _ => rfl) ?_
      refine ow_gf rfl rfl rfl hlen rfl ?_
      refine rt_ico rfl ki_0 ?_
      refine ow_ialN rfl rfl hv (by omega) hlen rfl ?_
      refine ow_iv1 (l2 := ((180, M) :: (181, mtl ts) :: [(182, ia nw), (187, lng nz), (202, ia nl)])) rfl rfl rfl rfl hlen rfl rfl rfl (hy.up (by decide)) rfl ?_
      refine bcT_ne rfl rfl ?_
      refine rt_ico rfl ki_0 ?_
      exact ow_irt rfl rfl rfl
theorem sm3_110 {B : Nat → Nat} {bs ts : List Int32} {vs : Nat → Value} {n lim : Nat} {k a kd pl w : Nat} {le : Int64} {nu tk td fp nm sg qm : Int32} {wd : Int64} {o s nn wi tp : Nat} {ws : List (Option Nat)} {sgl nbl nl nw : List Int32} {nz : List Int64} {P : Nat} {Dn : Nat} {lw : Int32} {cl : Int32} {id : Int32} {gl : Nat} {bo : Nat} {pn : List Int64} {ri : List Int32} {lf : List Int32} {wa : List Int32} {fo : List Int32} {dn : List Int64} {ha : List Int32} {pa : List Int32} {bl : List Int32} (hB : BY bs B) (hM : MY ts B) (hb : ∀ i, B i < 256) (hn : n ≤ 940) (hl : lim ≤ 940) (t : TF k n a kd w le nu nm sg wd) (sx : SX s ws sgl nbl) (ln : nl.length = 240) (hd : nn < 60) (ho : o ≤ 20) (hw8 : wi ≤ 8) {w0 j0 : Nat} (hw0 : w0 < 32) (hj0 : j0 < 100) : (∃ T M, FC n lim (posn vs nn o wi tp) T M ∧ LSn 5 144 [.ref 110, .ref 1, .retAddr w0] 5 248 [.ref 180, .int (Int32.ofNat j0)] ((1, tcl n lim a kd pl w le nu tk (Int32.ofNat 0) fp) :: (2, bcl bs) :: [(3, dcl3 P Dn lw cl id gl bo), (4, lng pn), (5, ia ri), (6, ia lf), (7, ia wa), (8, ia fo), (9, lng dn), (10, ia ha), (11, ia pa), (12, ia bl), (110, .inr (7, [.int (Int32.ofNat o), .int (Int32.ofNat s), .ref 111, .ref 112, .ref 113, .ref 114])), (111, wrd ws), (112, ia sgl), (113, ia nbl)]) ((180, mcl (Int32.ofNat 0) (Int32.ofNat 0) n lim a pl (km kd) nm sg (Int32.ofNat 0) qm wd td (posn vs nn o wi tp)) :: (181, mtl ts) :: [(182, ia nw), (187, lng nz), (202, ia nl)]) (.int (Int32.ofNat 0)) (.int (Int32.ofNat 0)) [(1, T), (110, .inr (7, [.int (Int32.ofNat o), .int (Int32.ofNat s), .ref 111, .ref 112, .ref 113, .ref 114])), (111, wrd ws), (112, ia sgl), (113, ia nbl)] [(180, M), (202, ia nl)]) ∨ (∃ (tk2 td2 : Int32) (T M : AE) (s2 : Nat) (ws2 : List (Option Nat)) (sl2 nb2 nl2 : List Int32), TC n lim (posn vs (nn + 1) o wi nn) (k + 2) tk2 td2 T M ∧ SX s2 ws2 sl2 nb2 ∧ nl2.length = 240 ∧ LSn 5 144 [.ref 110, .ref 1, .retAddr w0] 5 248 [.ref 180, .int (Int32.ofNat j0)] ((1, tcl n lim a kd pl w le nu tk (Int32.ofNat 0) fp) :: (2, bcl bs) :: [(3, dcl3 P Dn lw cl id gl bo), (4, lng pn), (5, ia ri), (6, ia lf), (7, ia wa), (8, ia fo), (9, lng dn), (10, ia ha), (11, ia pa), (12, ia bl), (110, .inr (7, [.int (Int32.ofNat o), .int (Int32.ofNat s), .ref 111, .ref 112, .ref 113, .ref 114])), (111, wrd ws), (112, ia sgl), (113, ia nbl)]) ((180, mcl (Int32.ofNat 0) (Int32.ofNat 0) n lim a pl (km kd) nm sg (Int32.ofNat 0) qm wd td (posn vs nn o wi tp)) :: (181, mtl ts) :: [(182, ia nw), (187, lng nz), (202, ia nl)]) (.int (Int32.ofNat 1)) (.int (Int32.ofNat 1)) [(1, T), (110, .inr (7, [.int (Int32.ofNat o), .int (Int32.ofNat s2), .ref 111, .ref 112, .ref 113, .ref 114])), (111, wrd ws2), (112, ia sl2), (113, ia nb2)] [(180, M), (202, ia nl2)]) := by
  have hk := (km_is kd t.2.2.2.1).2.2.2.2.2
  obtain ⟨k2_, k1_, k3_, k4_, k0_, k10⟩ := km_is kd t.2.2.2.1
  obtain ⟨sv, sv1, sv2, sv3⟩ : ∃ sv : Nat, sv < 256 ∧ (kd = 3 → nu = Int32.ofNat sv) ∧ (km kd = 4 → sg = Int32.ofNat sv) := by
    by_cases c3 : kd = 3
    · obtain ⟨c, c1, c2, c4⟩ := t.2.2.2.2.2.2.2.2 c3
      exact ⟨c, c1, fun _ => c2, fun _ => c4⟩
    · exact ⟨0, by decide, fun e => absurd e c3, fun e => absurd (k4_.mp e) c3⟩
  have hk5 : kd < 10 := by have := t.2.2.2.1; omega
  have bq : ∀ c : Nat, (Nat.beq (km kd) 4 && Nat.beq sv c) = (Nat.beq kd 3 && Nat.beq sv c) := by
    intro c
    by_cases c3 : kd = 3
    · rw [c3]; rfl
    · rw [nbqf c3, nbqf (fun e => c3 (k4_.mp e))]
  by_cases cc : (Nat.beq kd 3 && Nat.beq sv 60) = true ∨ (Nat.beq kd 3 && Nat.beq sv 61) = true ∨ (Nat.beq kd 3 && Nat.beq sv 62) = true
  · have k3 : kd = 3 := by
      rcases cc with e | e | e <;> (rw [Bool.and_eq_true] at e; exact Nat.eq_of_beq_eq_true e.1)
    obtain ⟨T1, M1, c1, x1, m1⟩ := s_adv hB hM hb hn hl (po := (posn vs nn o wi tp)) (pl := pl) (tk := tk) (td := td) (fp := fp) (plM := qm) t (by omega) (by omega)
    obtain ⟨a1, kd1, pl1, w1, le1, nu1, fp1, nm1, sg1, qm1, wd1, rfl, rfl, t1⟩ := c1
    have e1 : nu = Int32.ofNat sv := sv2 k3
    have e2 : sg = Int32.ofNat sv := sv3 (k4_.mpr k3)
    rcases s_num hB hM hb hn hl (po := (posn vs nn o wi tp)) (pl := pl1) (tk := tk) (td := td) (fp := fp1) (plM := qm1) t1 (lo := 0) (hi := 999) (by decide) (by decide) with ⟨T, M, f, hx, hm⟩ | ⟨v, T3, M3, v1, v2, c3, hx, hm⟩
    · refine Or.inl ⟨T, M, f, ?_⟩
      rcases sgn3 cc with g | ⟨g1, g⟩ | ⟨g1, g2, g⟩
      · refine ⟨fun H hlen => ?_, fun H hlen => ?_⟩
        · refine FR_st2 (l2 := ((1, T) :: (2, bcl bs) :: [(3, dcl3 P Dn lw cl id gl bo), (4, lng pn), (5, ia ri), (6, ia lf), (7, ia wa), (8, ia fo), (9, lng dn), (10, ia ha), (11, ia pa), (12, ia bl), (110, .inr (7, [.int (Int32.ofNat o), .int (Int32.ofNat s), .ref 111, .ref 112, .ref 113, .ref 114])), (111, wrd ws), (112, ia sgl), (113, ia nbl)])) rfl rfl rfl ?_
          refine RT_step (pc2 := 1) rfl (fun _ _ => rfl) ?_
          refine ow_gf rfl rfl rfl hlen rfl ?_
          refine RT_step (pc2 := 5) rfl (fun _ _ => rfl) ?_
          refine RT_step (pc2 := 6) rfl (fun _ _ => rfl) ?_
          refine rt_bip rfl k8_60 ?_
          refine ow_iv1 (l2 := ((1, tcl n lim a kd pl w le nu tk (Int32.ofNat 0) fp) :: (2, bcl bs) :: [(3, dcl3 P Dn lw cl id gl bo), (4, lng pn), (5, ia ri), (6, ia lf), (7, ia wa), (8, ia fo), (9, lng dn), (10, ia ha), (11, ia pa), (12, ia bl), (110, .inr (7, [.int (Int32.ofNat o), .int (Int32.ofNat s), .ref 111, .ref 112, .ref 113, .ref 114])), (111, wrd ws), (112, ia sgl), (113, ia nbl)])) rfl rfl rfl rfl hlen rfl rfl rfl ((x_isMarkHere (ov_hl hlen) (ov_at rfl (ov_lt hlen (by decide))) hk5 (c := 60) (s := sv) (by decide) sv1 sv2).up (by decide)) rfl ?_
          refine bcF_ne rfl (b01_t g) ?_
          refine RT_step (pc2 := 39) rfl (fun _ _ => rfl) ?_
          refine ow_iv0 (l2 := ((1, tcl n lim a1 kd1 pl1 w1 le1 nu1 tk (Int32.ofNat 0) fp1) :: (2, bcl bs) :: [(3, dcl3 P Dn lw cl id gl bo), (4, lng pn), (5, ia ri), (6, ia lf), (7, ia wa), (8, ia fo), (9, lng dn), (10, ia ha), (11, ia pa), (12, ia bl), (110, .inr (7, [.int (Int32.ofNat o), .int (Int32.ofNat s), .ref 111, .ref 112, .ref 113, .ref 114])), (111, wrd ws), (112, ia sgl), (113, ia nbl)])) rfl rfl rfl rfl hlen rfl rfl rfl ((x1 _ (ov_hl hlen) (ov_at rfl (ov_lt hlen (by decide))) (ov_at rfl (ov_lt hlen (by decide)))).up (by decide)) rfl ?_
          refine RT_step (pc2 := 43) rfl (fun _ _ => rfl) ?_
          refine rt_ico rfl ki_0 ?_
          refine rt_sip rfl k16_999 ?_
          refine ow_iv1 (l2 := ((1, T) :: (2, bcl bs) :: [(3, dcl3 P Dn lw cl id gl bo), (4, lng pn), (5, ia ri), (6, ia lf), (7, ia wa), (8, ia fo), (9, lng dn), (10, ia ha), (11, ia pa), (12, ia bl), (110, .inr (7, [.int (Int32.ofNat o), .int (Int32.ofNat s), .ref 111, .ref 112, .ref 113, .ref 114])), (111, wrd ws), (112, ia sgl), (113, ia nbl)])) rfl rfl rfl rfl hlen rfl rfl rfl ((hx _ (ov_hl hlen) (ov_at rfl (ov_lt hlen (by decide))) (ov_at rfl (ov_lt hlen (by decide)))).up (by decide)) rfl ?_
          refine bcT_ne rfl rfl ?_
          refine rt_ico rfl ki_0 ?_
          exact ow_irt rfl rfl rfl
        · refine FR_st2 (l2 := ((180, M) :: (181, mtl ts) :: [(182, ia nw), (187, lng nz), (202, ia nl)])) rfl rfl rfl ?_
          refine RT_step (pc2 := 1) rfl (fun _ _ => rfl) ?_
          refine rt_bip rfl k8_60 ?_
          refine ow_iv1 (l2 := ((180, mcl (Int32.ofNat 0) (Int32.ofNat 0) n lim a pl (km kd) nm sg (Int32.ofNat 0) qm wd td (posn vs nn o wi tp)) :: (181, mtl ts) :: [(182, ia nw), (187, lng nz), (202, ia nl)])) rfl rfl rfl rfl hlen rfl rfl rfl ((m_isSign (ov_hl hlen) (ov_at rfl (ov_lt hlen (by decide))) k10 (c := 60) (s := sv) (by decide) sv1 sv3).up (by decide)) rfl ?_
          refine bcF_ne rfl (b01_t ((bq 60).trans g)) ?_
          refine RT_step (pc2 := 34) rfl (fun _ _ => rfl) ?_
          refine ow_gf rfl rfl rfl hlen rfl ?_
          refine RT_step (pc2 := 38) rfl (fun _ _ => rfl) ?_
          refine RT_step (pc2 := 39) rfl (fun _ _ => rfl) ?_
          refine ow_iv0 (l2 := ((180, mcl (Int32.ofNat 0) (Int32.ofNat 0) n lim a1 pl1 (km kd1) nm1 sg1 (Int32.ofNat 0) qm1 wd1 td (posn vs nn o wi tp)) :: (181, mtl ts) :: [(182, ia nw), (187, lng nz), (202, ia nl)])) rfl rfl rfl rfl hlen rfl rfl rfl ((m1 _ (ov_hl hlen) (ov_at rfl (ov_lt hlen (by decide))) (ov_at rfl (ov_lt hlen (by decide)))).up (by decide)) rfl ?_
          refine RT_step (pc2 := 43) rfl (fun _ _ => rfl) ?_
          refine rt_ico rfl ki_0 ?_
          refine rt_sip rfl k16_999 ?_
          refine ow_iv1 (l2 := ((180, M) :: (181, mtl ts) :: [(182, ia nw), (187, lng nz), (202, ia nl)])) rfl rfl rfl rfl hlen rfl rfl rfl ((hm _ (ov_hl hlen) (ov_at rfl (ov_lt hlen (by decide))) (ov_at rfl (ov_lt hlen (by decide)))).up (by decide)) rfl ?_
          refine bcT_ne rfl rfl ?_
          refine rt_ico rfl ki_0 ?_
          exact ow_irt rfl rfl rfl
      · refine ⟨fun H hlen => ?_, fun H hlen => ?_⟩
        · refine FR_st2 (l2 := ((1, T) :: (2, bcl bs) :: [(3, dcl3 P Dn lw cl id gl bo), (4, lng pn), (5, ia ri), (6, ia lf), (7, ia wa), (8, ia fo), (9, lng dn), (10, ia ha), (11, ia pa), (12, ia bl), (110, .inr (7, [.int (Int32.ofNat o), .int (Int32.ofNat s), .ref 111, .ref 112, .ref 113, .ref 114])), (111, wrd ws), (112, ia sgl), (113, ia nbl)])) rfl rfl rfl ?_
          refine RT_step (pc2 := 1) rfl (fun _ _ => rfl) ?_
          refine ow_gf rfl rfl rfl hlen rfl ?_
          refine RT_step (pc2 := 5) rfl (fun _ _ => rfl) ?_
          refine RT_step (pc2 := 6) rfl (fun _ _ => rfl) ?_
          refine rt_bip rfl k8_60 ?_
          refine ow_iv1 (l2 := ((1, tcl n lim a kd pl w le nu tk (Int32.ofNat 0) fp) :: (2, bcl bs) :: [(3, dcl3 P Dn lw cl id gl bo), (4, lng pn), (5, ia ri), (6, ia lf), (7, ia wa), (8, ia fo), (9, lng dn), (10, ia ha), (11, ia pa), (12, ia bl), (110, .inr (7, [.int (Int32.ofNat o), .int (Int32.ofNat s), .ref 111, .ref 112, .ref 113, .ref 114])), (111, wrd ws), (112, ia sgl), (113, ia nbl)])) rfl rfl rfl rfl hlen rfl rfl rfl ((x_isMarkHere (ov_hl hlen) (ov_at rfl (ov_lt hlen (by decide))) hk5 (c := 60) (s := sv) (by decide) sv1 sv2).up (by decide)) rfl ?_
          refine bcT_ne rfl (b01_f g1) ?_
          refine RT_step (pc2 := 15) rfl (fun _ _ => rfl) ?_
          refine rt_bip rfl k8_61 ?_
          refine ow_iv1 (l2 := ((1, tcl n lim a kd pl w le nu tk (Int32.ofNat 0) fp) :: (2, bcl bs) :: [(3, dcl3 P Dn lw cl id gl bo), (4, lng pn), (5, ia ri), (6, ia lf), (7, ia wa), (8, ia fo), (9, lng dn), (10, ia ha), (11, ia pa), (12, ia bl), (110, .inr (7, [.int (Int32.ofNat o), .int (Int32.ofNat s), .ref 111, .ref 112, .ref 113, .ref 114])), (111, wrd ws), (112, ia sgl), (113, ia nbl)])) rfl rfl rfl rfl hlen rfl rfl rfl ((x_isMarkHere (ov_hl hlen) (ov_at rfl (ov_lt hlen (by decide))) hk5 (c := 61) (s := sv) (by decide) sv1 sv2).up (by decide)) rfl ?_
          refine bcF_ne rfl (b01_t g) ?_
          refine RT_step (pc2 := 39) rfl (fun _ _ => rfl) ?_
          refine ow_iv0 (l2 := ((1, tcl n lim a1 kd1 pl1 w1 le1 nu1 tk (Int32.ofNat 0) fp1) :: (2, bcl bs) :: [(3, dcl3 P Dn lw cl id gl bo), (4, lng pn), (5, ia ri), (6, ia lf), (7, ia wa), (8, ia fo), (9, lng dn), (10, ia ha), (11, ia pa), (12, ia bl), (110, .inr (7, [.int (Int32.ofNat o), .int (Int32.ofNat s), .ref 111, .ref 112, .ref 113, .ref 114])), (111, wrd ws), (112, ia sgl), (113, ia nbl)])) rfl rfl rfl rfl hlen rfl rfl rfl ((x1 _ (ov_hl hlen) (ov_at rfl (ov_lt hlen (by decide))) (ov_at rfl (ov_lt hlen (by decide)))).up (by decide)) rfl ?_
          refine RT_step (pc2 := 43) rfl (fun _ _ => rfl) ?_
          refine rt_ico rfl ki_0 ?_
          refine rt_sip rfl k16_999 ?_
          refine ow_iv1 (l2 := ((1, T) :: (2, bcl bs) :: [(3, dcl3 P Dn lw cl id gl bo), (4, lng pn), (5, ia ri), (6, ia lf), (7, ia wa), (8, ia fo), (9, lng dn), (10, ia ha), (11, ia pa), (12, ia bl), (110, .inr (7, [.int (Int32.ofNat o), .int (Int32.ofNat s), .ref 111, .ref 112, .ref 113, .ref 114])), (111, wrd ws), (112, ia sgl), (113, ia nbl)])) rfl rfl rfl rfl hlen rfl rfl rfl ((hx _ (ov_hl hlen) (ov_at rfl (ov_lt hlen (by decide))) (ov_at rfl (ov_lt hlen (by decide)))).up (by decide)) rfl ?_
          refine bcT_ne rfl rfl ?_
          refine rt_ico rfl ki_0 ?_
          exact ow_irt rfl rfl rfl
        · refine FR_st2 (l2 := ((180, M) :: (181, mtl ts) :: [(182, ia nw), (187, lng nz), (202, ia nl)])) rfl rfl rfl ?_
          refine RT_step (pc2 := 1) rfl (fun _ _ => rfl) ?_
          refine rt_bip rfl k8_60 ?_
          refine ow_iv1 (l2 := ((180, mcl (Int32.ofNat 0) (Int32.ofNat 0) n lim a pl (km kd) nm sg (Int32.ofNat 0) qm wd td (posn vs nn o wi tp)) :: (181, mtl ts) :: [(182, ia nw), (187, lng nz), (202, ia nl)])) rfl rfl rfl rfl hlen rfl rfl rfl ((m_isSign (ov_hl hlen) (ov_at rfl (ov_lt hlen (by decide))) k10 (c := 60) (s := sv) (by decide) sv1 sv3).up (by decide)) rfl ?_
          refine bcT_ne rfl (b01_f ((bq 60).trans g1)) ?_
          refine RT_step (pc2 := 10) rfl (fun _ _ => rfl) ?_
          refine rt_bip rfl k8_61 ?_
          refine ow_iv1 (l2 := ((180, mcl (Int32.ofNat 0) (Int32.ofNat 0) n lim a pl (km kd) nm sg (Int32.ofNat 0) qm wd td (posn vs nn o wi tp)) :: (181, mtl ts) :: [(182, ia nw), (187, lng nz), (202, ia nl)])) rfl rfl rfl rfl hlen rfl rfl rfl ((m_isSign (ov_hl hlen) (ov_at rfl (ov_lt hlen (by decide))) k10 (c := 61) (s := sv) (by decide) sv1 sv3).up (by decide)) rfl ?_
          refine bcF_ne rfl (b01_t ((bq 61).trans g)) ?_
          refine RT_step (pc2 := 34) rfl (fun _ _ => rfl) ?_
          refine ow_gf rfl rfl rfl hlen rfl ?_
          refine RT_step (pc2 := 38) rfl (fun _ _ => rfl) ?_
          refine RT_step (pc2 := 39) rfl (fun _ _ => rfl) ?_
          refine ow_iv0 (l2 := ((180, mcl (Int32.ofNat 0) (Int32.ofNat 0) n lim a1 pl1 (km kd1) nm1 sg1 (Int32.ofNat 0) qm1 wd1 td (posn vs nn o wi tp)) :: (181, mtl ts) :: [(182, ia nw), (187, lng nz), (202, ia nl)])) rfl rfl rfl rfl hlen rfl rfl rfl ((m1 _ (ov_hl hlen) (ov_at rfl (ov_lt hlen (by decide))) (ov_at rfl (ov_lt hlen (by decide)))).up (by decide)) rfl ?_
          refine RT_step (pc2 := 43) rfl (fun _ _ => rfl) ?_
          refine rt_ico rfl ki_0 ?_
          refine rt_sip rfl k16_999 ?_
          refine ow_iv1 (l2 := ((180, M) :: (181, mtl ts) :: [(182, ia nw), (187, lng nz), (202, ia nl)])) rfl rfl rfl rfl hlen rfl rfl rfl ((hm _ (ov_hl hlen) (ov_at rfl (ov_lt hlen (by decide))) (ov_at rfl (ov_lt hlen (by decide)))).up (by decide)) rfl ?_
          refine bcT_ne rfl rfl ?_
          refine rt_ico rfl ki_0 ?_
          exact ow_irt rfl rfl rfl
      · refine ⟨fun H hlen => ?_, fun H hlen => ?_⟩
        · refine FR_st2 (l2 := ((1, T) :: (2, bcl bs) :: [(3, dcl3 P Dn lw cl id gl bo), (4, lng pn), (5, ia ri), (6, ia lf), (7, ia wa), (8, ia fo), (9, lng dn), (10, ia ha), (11, ia pa), (12, ia bl), (110, .inr (7, [.int (Int32.ofNat o), .int (Int32.ofNat s), .ref 111, .ref 112, .ref 113, .ref 114])), (111, wrd ws), (112, ia sgl), (113, ia nbl)])) rfl rfl rfl ?_
          refine RT_step (pc2 := 1) rfl (fun _ _ => rfl) ?_
          refine ow_gf rfl rfl rfl hlen rfl ?_
          refine RT_step (pc2 := 5) rfl (fun _ _ => rfl) ?_
          refine RT_step (pc2 := 6) rfl (fun _ _ => rfl) ?_
          refine rt_bip rfl k8_60 ?_
          refine ow_iv1 (l2 := ((1, tcl n lim a kd pl w le nu tk (Int32.ofNat 0) fp) :: (2, bcl bs) :: [(3, dcl3 P Dn lw cl id gl bo), (4, lng pn), (5, ia ri), (6, ia lf), (7, ia wa), (8, ia fo), (9, lng dn), (10, ia ha), (11, ia pa), (12, ia bl), (110, .inr (7, [.int (Int32.ofNat o), .int (Int32.ofNat s), .ref 111, .ref 112, .ref 113, .ref 114])), (111, wrd ws), (112, ia sgl), (113, ia nbl)])) rfl rfl rfl rfl hlen rfl rfl rfl ((x_isMarkHere (ov_hl hlen) (ov_at rfl (ov_lt hlen (by decide))) hk5 (c := 60) (s := sv) (by decide) sv1 sv2).up (by decide)) rfl ?_
          refine bcT_ne rfl (b01_f g1) ?_
          refine RT_step (pc2 := 15) rfl (fun _ _ => rfl) ?_
          refine rt_bip rfl k8_61 ?_
          refine ow_iv1 (l2 := ((1, tcl n lim a kd pl w le nu tk (Int32.ofNat 0) fp) :: (2, bcl bs) :: [(3, dcl3 P Dn lw cl id gl bo), (4, lng pn), (5, ia ri), (6, ia lf), (7, ia wa), (8, ia fo), (9, lng dn), (10, ia ha), (11, ia pa), (12, ia bl), (110, .inr (7, [.int (Int32.ofNat o), .int (Int32.ofNat s), .ref 111, .ref 112, .ref 113, .ref 114])), (111, wrd ws), (112, ia sgl), (113, ia nbl)])) rfl rfl rfl rfl hlen rfl rfl rfl ((x_isMarkHere (ov_hl hlen) (ov_at rfl (ov_lt hlen (by decide))) hk5 (c := 61) (s := sv) (by decide) sv1 sv2).up (by decide)) rfl ?_
          refine bcT_ne rfl (b01_f g2) ?_
          refine RT_step (pc2 := 24) rfl (fun _ _ => rfl) ?_
          refine rt_bip rfl k8_62 ?_
          refine ow_iv1 (l2 := ((1, tcl n lim a kd pl w le nu tk (Int32.ofNat 0) fp) :: (2, bcl bs) :: [(3, dcl3 P Dn lw cl id gl bo), (4, lng pn), (5, ia ri), (6, ia lf), (7, ia wa), (8, ia fo), (9, lng dn), (10, ia ha), (11, ia pa), (12, ia bl), (110, .inr (7, [.int (Int32.ofNat o), .int (Int32.ofNat s), .ref 111, .ref 112, .ref 113, .ref 114])), (111, wrd ws), (112, ia sgl), (113, ia nbl)])) rfl rfl rfl rfl hlen rfl rfl rfl ((x_isMarkHere (ov_hl hlen) (ov_at rfl (ov_lt hlen (by decide))) hk5 (c := 62) (s := sv) (by decide) sv1 sv2).up (by decide)) rfl ?_
          refine bcF_ne rfl (b01_t g) ?_
          refine RT_step (pc2 := 39) rfl (fun _ _ => rfl) ?_
          refine ow_iv0 (l2 := ((1, tcl n lim a1 kd1 pl1 w1 le1 nu1 tk (Int32.ofNat 0) fp1) :: (2, bcl bs) :: [(3, dcl3 P Dn lw cl id gl bo), (4, lng pn), (5, ia ri), (6, ia lf), (7, ia wa), (8, ia fo), (9, lng dn), (10, ia ha), (11, ia pa), (12, ia bl), (110, .inr (7, [.int (Int32.ofNat o), .int (Int32.ofNat s), .ref 111, .ref 112, .ref 113, .ref 114])), (111, wrd ws), (112, ia sgl), (113, ia nbl)])) rfl rfl rfl rfl hlen rfl rfl rfl ((x1 _ (ov_hl hlen) (ov_at rfl (ov_lt hlen (by decide))) (ov_at rfl (ov_lt hlen (by decide)))).up (by decide)) rfl ?_
          refine RT_step (pc2 := 43) rfl (fun _ _ => rfl) ?_
          refine rt_ico rfl ki_0 ?_
          refine rt_sip rfl k16_999 ?_
          refine ow_iv1 (l2 := ((1, T) :: (2, bcl bs) :: [(3, dcl3 P Dn lw cl id gl bo), (4, lng pn), (5, ia ri), (6, ia lf), (7, ia wa), (8, ia fo), (9, lng dn), (10, ia ha), (11, ia pa), (12, ia bl), (110, .inr (7, [.int (Int32.ofNat o), .int (Int32.ofNat s), .ref 111, .ref 112, .ref 113, .ref 114])), (111, wrd ws), (112, ia sgl), (113, ia nbl)])) rfl rfl rfl rfl hlen rfl rfl rfl ((hx _ (ov_hl hlen) (ov_at rfl (ov_lt hlen (by decide))) (ov_at rfl (ov_lt hlen (by decide)))).up (by decide)) rfl ?_
          refine bcT_ne rfl rfl ?_
          refine rt_ico rfl ki_0 ?_
          exact ow_irt rfl rfl rfl
        · refine FR_st2 (l2 := ((180, M) :: (181, mtl ts) :: [(182, ia nw), (187, lng nz), (202, ia nl)])) rfl rfl rfl ?_
          refine RT_step (pc2 := 1) rfl (fun _ _ => rfl) ?_
          refine rt_bip rfl k8_60 ?_
          refine ow_iv1 (l2 := ((180, mcl (Int32.ofNat 0) (Int32.ofNat 0) n lim a pl (km kd) nm sg (Int32.ofNat 0) qm wd td (posn vs nn o wi tp)) :: (181, mtl ts) :: [(182, ia nw), (187, lng nz), (202, ia nl)])) rfl rfl rfl rfl hlen rfl rfl rfl ((m_isSign (ov_hl hlen) (ov_at rfl (ov_lt hlen (by decide))) k10 (c := 60) (s := sv) (by decide) sv1 sv3).up (by decide)) rfl ?_
          refine bcT_ne rfl (b01_f ((bq 60).trans g1)) ?_
          refine RT_step (pc2 := 10) rfl (fun _ _ => rfl) ?_
          refine rt_bip rfl k8_61 ?_
          refine ow_iv1 (l2 := ((180, mcl (Int32.ofNat 0) (Int32.ofNat 0) n lim a pl (km kd) nm sg (Int32.ofNat 0) qm wd td (posn vs nn o wi tp)) :: (181, mtl ts) :: [(182, ia nw), (187, lng nz), (202, ia nl)])) rfl rfl rfl rfl hlen rfl rfl rfl ((m_isSign (ov_hl hlen) (ov_at rfl (ov_lt hlen (by decide))) k10 (c := 61) (s := sv) (by decide) sv1 sv3).up (by decide)) rfl ?_
          refine bcT_ne rfl (b01_f ((bq 61).trans g2)) ?_
          refine RT_step (pc2 := 19) rfl (fun _ _ => rfl) ?_
          refine rt_bip rfl k8_62 ?_
          refine ow_iv1 (l2 := ((180, mcl (Int32.ofNat 0) (Int32.ofNat 0) n lim a pl (km kd) nm sg (Int32.ofNat 0) qm wd td (posn vs nn o wi tp)) :: (181, mtl ts) :: [(182, ia nw), (187, lng nz), (202, ia nl)])) rfl rfl rfl rfl hlen rfl rfl rfl ((m_isSign (ov_hl hlen) (ov_at rfl (ov_lt hlen (by decide))) k10 (c := 62) (s := sv) (by decide) sv1 sv3).up (by decide)) rfl ?_
          refine bcF_ne rfl (b01_t ((bq 62).trans g)) ?_
          refine RT_step (pc2 := 34) rfl (fun _ _ => rfl) ?_
          refine ow_gf rfl rfl rfl hlen rfl ?_
          refine RT_step (pc2 := 38) rfl (fun _ _ => rfl) ?_
          refine RT_step (pc2 := 39) rfl (fun _ _ => rfl) ?_
          refine ow_iv0 (l2 := ((180, mcl (Int32.ofNat 0) (Int32.ofNat 0) n lim a1 pl1 (km kd1) nm1 sg1 (Int32.ofNat 0) qm1 wd1 td (posn vs nn o wi tp)) :: (181, mtl ts) :: [(182, ia nw), (187, lng nz), (202, ia nl)])) rfl rfl rfl rfl hlen rfl rfl rfl ((m1 _ (ov_hl hlen) (ov_at rfl (ov_lt hlen (by decide))) (ov_at rfl (ov_lt hlen (by decide)))).up (by decide)) rfl ?_
          refine RT_step (pc2 := 43) rfl (fun _ _ => rfl) ?_
          refine rt_ico rfl ki_0 ?_
          refine rt_sip rfl k16_999 ?_
          refine ow_iv1 (l2 := ((180, M) :: (181, mtl ts) :: [(182, ia nw), (187, lng nz), (202, ia nl)])) rfl rfl rfl rfl hlen rfl rfl rfl ((hm _ (ov_hl hlen) (ov_at rfl (ov_lt hlen (by decide))) (ov_at rfl (ov_lt hlen (by decide)))).up (by decide)) rfl ?_
          refine bcT_ne rfl rfl ?_
          refine rt_ico rfl ki_0 ?_
          exact ow_irt rfl rfl rfl
    · obtain ⟨a3, kd3, pl3, w3, le3, nu3, fp3, nm3, sg3, qm3, wd3, rfl, rfl, t3⟩ := c3
      obtain ⟨s2, ws2, sl2, nb2, sx2, hadd⟩ := sx_add110 sx hw0 nu (Int32.ofNat v)
      refine Or.inr ⟨(Int32.ofNat v), (Int32.ofNat v), tcl n lim a3 kd3 pl3 w3 le3 nu3 (Int32.ofNat v) (Int32.ofNat 0) fp3, mcl (Int32.ofNat 0) (Int32.ofNat 0) n lim a3 pl3 (km kd3) nm3 sg3 (Int32.ofNat 0) qm3 wd3 (Int32.ofNat v) (posn vs (nn + 1) o wi nn), s2, ws2, sl2, nb2, ((((nl.set (4 * nn) (Int32.ofNat (50 + j0))).set (4 * nn + 1) (Int32.ofNat 0)).set (4 * nn + 2) (Int32.ofNat v)).set (4 * nn + 3) sg), tf_td t3, sx2, (by simp only [List.length_set]; exact ln), ?_⟩
      rcases sgn3 cc with g | ⟨g1, g⟩ | ⟨g1, g2, g⟩
      · refine ⟨fun H hlen => ?_, fun H hlen => ?_⟩
        · refine FR_st2 (l2 := ((1, tcl n lim a3 kd3 pl3 w3 le3 nu3 (Int32.ofNat v) (Int32.ofNat 0) fp3) :: (2, bcl bs) :: [(3, dcl3 P Dn lw cl id gl bo), (4, lng pn), (5, ia ri), (6, ia lf), (7, ia wa), (8, ia fo), (9, lng dn), (10, ia ha), (11, ia pa), (12, ia bl), (110, .inr (7, [.int (Int32.ofNat o), .int (Int32.ofNat s2), .ref 111, .ref 112, .ref 113, .ref 114])), (111, wrd ws2), (112, ia sl2), (113, ia nb2)])) rfl rfl rfl ?_
          refine RT_step (pc2 := 1) rfl (fun _ _ => rfl) ?_
          refine ow_gf rfl rfl rfl hlen rfl ?_
          refine RT_step (pc2 := 5) rfl (fun _ _ => rfl) ?_
          refine RT_step (pc2 := 6) rfl (fun _ _ => rfl) ?_
          refine rt_bip rfl k8_60 ?_
          refine ow_iv1 (l2 := ((1, tcl n lim a kd pl w le nu tk (Int32.ofNat 0) fp) :: (2, bcl bs) :: [(3, dcl3 P Dn lw cl id gl bo), (4, lng pn), (5, ia ri), (6, ia lf), (7, ia wa), (8, ia fo), (9, lng dn), (10, ia ha), (11, ia pa), (12, ia bl), (110, .inr (7, [.int (Int32.ofNat o), .int (Int32.ofNat s), .ref 111, .ref 112, .ref 113, .ref 114])), (111, wrd ws), (112, ia sgl), (113, ia nbl)])) rfl rfl rfl rfl hlen rfl rfl rfl ((x_isMarkHere (ov_hl hlen) (ov_at rfl (ov_lt hlen (by decide))) hk5 (c := 60) (s := sv) (by decide) sv1 sv2).up (by decide)) rfl ?_
          refine bcF_ne rfl (b01_t g) ?_
          refine RT_step (pc2 := 39) rfl (fun _ _ => rfl) ?_
          refine ow_iv0 (l2 := ((1, tcl n lim a1 kd1 pl1 w1 le1 nu1 tk (Int32.ofNat 0) fp1) :: (2, bcl bs) :: [(3, dcl3 P Dn lw cl id gl bo), (4, lng pn), (5, ia ri), (6, ia lf), (7, ia wa), (8, ia fo), (9, lng dn), (10, ia ha), (11, ia pa), (12, ia bl), (110, .inr (7, [.int (Int32.ofNat o), .int (Int32.ofNat s), .ref 111, .ref 112, .ref 113, .ref 114])), (111, wrd ws), (112, ia sgl), (113, ia nbl)])) rfl rfl rfl rfl hlen rfl rfl rfl ((x1 _ (ov_hl hlen) (ov_at rfl (ov_lt hlen (by decide))) (ov_at rfl (ov_lt hlen (by decide)))).up (by decide)) rfl ?_
          refine RT_step (pc2 := 43) rfl (fun _ _ => rfl) ?_
          refine rt_ico rfl ki_0 ?_
          refine rt_sip rfl k16_999 ?_
          refine ow_iv1 (l2 := ((1, tcl n lim a3 kd3 pl3 w3 le3 nu3 (Int32.ofNat v) (Int32.ofNat 0) fp3) :: (2, bcl bs) :: [(3, dcl3 P Dn lw cl id gl bo), (4, lng pn), (5, ia ri), (6, ia lf), (7, ia wa), (8, ia fo), (9, lng dn), (10, ia ha), (11, ia pa), (12, ia bl), (110, .inr (7, [.int (Int32.ofNat o), .int (Int32.ofNat s), .ref 111, .ref 112, .ref 113, .ref 114])), (111, wrd ws), (112, ia sgl), (113, ia nbl)])) rfl rfl rfl rfl hlen rfl rfl rfl ((hx _ (ov_hl hlen) (ov_at rfl (ov_lt hlen (by decide))) (ov_at rfl (ov_lt hlen (by decide)))).up (by decide)) rfl ?_
          refine bcF_ne rfl (by decide) ?_
          refine RT_step (pc2 := 56) rfl (fun _ _ => rfl) ?_
          refine RT_step (pc2 := 57) rfl (fun _ _ => rfl) ?_
          refine RT_step (pc2 := 58) rfl (fun _ _ => rfl) ?_
          refine RT_step (pc2 := 59) rfl (fun _ _ => rfl) ?_
          refine ow_gf rfl rfl rfl hlen rfl ?_
          refine ow_iv0 (l2 := ((1, tcl n lim a3 kd3 pl3 w3 le3 nu3 (Int32.ofNat v) (Int32.ofNat 0) fp3) :: (2, bcl bs) :: [(3, dcl3 P Dn lw cl id gl bo), (4, lng pn), (5, ia ri), (6, ia lf), (7, ia wa), (8, ia fo), (9, lng dn), (10, ia ha), (11, ia pa), (12, ia bl), (110, .inr (7, [.int (Int32.ofNat o), .int (Int32.ofNat s2), .ref 111, .ref 112, .ref 113, .ref 114])), (111, wrd ws2), (112, ia sl2), (113, ia nb2)])) rfl rfl rfl rfl hlen rfl rfl rfl ((hadd _ _ (ov_hl hlen) (ov_at rfl (ov_lt hlen (by decide))) (ov_at rfl (ov_lt hlen (by decide))) (ov_at rfl (ov_lt hlen (by decide))) (ov_at rfl (ov_lt hlen (by decide)))).up (by decide)) rfl ?_
          refine rt_ico rfl ki_1 ?_
          exact ow_irt rfl rfl rfl
        · refine FR_st2 (l2 := ((180, mcl (Int32.ofNat 0) (Int32.ofNat 0) n lim a3 pl3 (km kd3) nm3 sg3 (Int32.ofNat 0) qm3 wd3 (Int32.ofNat v) (posn vs (nn + 1) o wi nn)) :: (181, mtl ts) :: [(182, ia nw), (187, lng nz), (202, ia ((((nl.set (4 * nn) (Int32.ofNat (50 + j0))).set (4 * nn + 1) (Int32.ofNat 0)).set (4 * nn + 2) (Int32.ofNat v)).set (4 * nn + 3) sg))])) rfl rfl rfl ?_
          refine RT_step (pc2 := 1) rfl (fun _ _ => rfl) ?_
          refine rt_bip rfl k8_60 ?_
          refine ow_iv1 (l2 := ((180, mcl (Int32.ofNat 0) (Int32.ofNat 0) n lim a pl (km kd) nm sg (Int32.ofNat 0) qm wd td (posn vs nn o wi tp)) :: (181, mtl ts) :: [(182, ia nw), (187, lng nz), (202, ia nl)])) rfl rfl rfl rfl hlen rfl rfl rfl ((m_isSign (ov_hl hlen) (ov_at rfl (ov_lt hlen (by decide))) k10 (c := 60) (s := sv) (by decide) sv1 sv3).up (by decide)) rfl ?_
          refine bcF_ne rfl (b01_t ((bq 60).trans g)) ?_
          refine RT_step (pc2 := 34) rfl (fun _ _ => rfl) ?_
          refine ow_gf rfl rfl rfl hlen rfl ?_
          refine RT_step (pc2 := 38) rfl (fun _ _ => rfl) ?_
          refine RT_step (pc2 := 39) rfl (fun _ _ => rfl) ?_
          refine ow_iv0 (l2 := ((180, mcl (Int32.ofNat 0) (Int32.ofNat 0) n lim a1 pl1 (km kd1) nm1 sg1 (Int32.ofNat 0) qm1 wd1 td (posn vs nn o wi tp)) :: (181, mtl ts) :: [(182, ia nw), (187, lng nz), (202, ia nl)])) rfl rfl rfl rfl hlen rfl rfl rfl ((m1 _ (ov_hl hlen) (ov_at rfl (ov_lt hlen (by decide))) (ov_at rfl (ov_lt hlen (by decide)))).up (by decide)) rfl ?_
          refine RT_step (pc2 := 43) rfl (fun _ _ => rfl) ?_
          refine rt_ico rfl ki_0 ?_
          refine rt_sip rfl k16_999 ?_
          refine ow_iv1 (l2 := ((180, mcl (Int32.ofNat 0) (Int32.ofNat 0) n lim a3 pl3 (km kd3) nm3 sg3 (Int32.ofNat 0) qm3 wd3 (Int32.ofNat v) (posn vs nn o wi tp)) :: (181, mtl ts) :: [(182, ia nw), (187, lng nz), (202, ia nl)])) rfl rfl rfl rfl hlen rfl rfl rfl ((hm _ (ov_hl hlen) (ov_at rfl (ov_lt hlen (by decide))) (ov_at rfl (ov_lt hlen (by decide)))).up (by decide)) rfl ?_
          refine bcF_ne rfl (by decide) ?_
          refine RT_step (pc2 := 56) rfl (fun _ _ => rfl) ?_
          refine RT_step (pc2 := 57) rfl (fun _ _ => rfl) ?_
          refine rt_bip rfl k8_50 ?_
          refine RT_step (pc2 := 60) rfl (fun _ _ => rfl) ?_
          refine ba_iadd rfl ?_
          rw [n_add]
          refine rt_ico rfl ki_0 ?_
          refine RT_step (pc2 := 63) rfl (fun _ _ => rfl) ?_
          refine ow_gf rfl rfl rfl hlen rfl ?_
          refine RT_step (pc2 := 67) rfl (fun _ _ => rfl) ?_
          refine ow_iv1 (l2 := ((180, mcl (Int32.ofNat 0) (Int32.ofNat 0) n lim a3 pl3 (km kd3) nm3 sg3 (Int32.ofNat 0) qm3 wd3 (Int32.ofNat v) (posn vs (nn + 1) o wi tp)) :: (181, mtl ts) :: [(182, ia nw), (187, lng nz), (202, ia ((((nl.set (4 * nn) (Int32.ofNat (50 + j0))).set (4 * nn + 1) (Int32.ofNat 0)).set (4 * nn + 2) (Int32.ofNat v)).set (4 * nn + 3) sg))])) rfl rfl rfl rfl hlen rfl rfl rfl ((m_says (ov_hl hlen) (ov_at rfl (ov_lt hlen (by decide))) (ov_at rfl (ov_lt hlen (by decide))) ln hd).up (by decide)) rfl ?_
          refine ow_pf (l2 := ((180, mcl (Int32.ofNat 0) (Int32.ofNat 0) n lim a3 pl3 (km kd3) nm3 sg3 (Int32.ofNat 0) qm3 wd3 (Int32.ofNat v) (posn vs (nn + 1) o wi nn)) :: (181, mtl ts) :: [(182, ia nw), (187, lng nz), (202, ia ((((nl.set (4 * nn) (Int32.ofNat (50 + j0))).set (4 * nn + 1) (Int32.ofNat 0)).set (4 * nn + 2) (Int32.ofNat v)).set (4 * nn + 3) sg))])) rfl rfl rfl rfl rfl hlen rfl rfl ?_
          refine rt_ico rfl ki_1 ?_
          exact ow_irt rfl rfl rfl
      · refine ⟨fun H hlen => ?_, fun H hlen => ?_⟩
        · refine FR_st2 (l2 := ((1, tcl n lim a3 kd3 pl3 w3 le3 nu3 (Int32.ofNat v) (Int32.ofNat 0) fp3) :: (2, bcl bs) :: [(3, dcl3 P Dn lw cl id gl bo), (4, lng pn), (5, ia ri), (6, ia lf), (7, ia wa), (8, ia fo), (9, lng dn), (10, ia ha), (11, ia pa), (12, ia bl), (110, .inr (7, [.int (Int32.ofNat o), .int (Int32.ofNat s2), .ref 111, .ref 112, .ref 113, .ref 114])), (111, wrd ws2), (112, ia sl2), (113, ia nb2)])) rfl rfl rfl ?_
          refine RT_step (pc2 := 1) rfl (fun _ _ => rfl) ?_
          refine ow_gf rfl rfl rfl hlen rfl ?_
          refine RT_step (pc2 := 5) rfl (fun _ _ => rfl) ?_
          refine RT_step (pc2 := 6) rfl (fun _ _ => rfl) ?_
          refine rt_bip rfl k8_60 ?_
          refine ow_iv1 (l2 := ((1, tcl n lim a kd pl w le nu tk (Int32.ofNat 0) fp) :: (2, bcl bs) :: [(3, dcl3 P Dn lw cl id gl bo), (4, lng pn), (5, ia ri), (6, ia lf), (7, ia wa), (8, ia fo), (9, lng dn), (10, ia ha), (11, ia pa), (12, ia bl), (110, .inr (7, [.int (Int32.ofNat o), .int (Int32.ofNat s), .ref 111, .ref 112, .ref 113, .ref 114])), (111, wrd ws), (112, ia sgl), (113, ia nbl)])) rfl rfl rfl rfl hlen rfl rfl rfl ((x_isMarkHere (ov_hl hlen) (ov_at rfl (ov_lt hlen (by decide))) hk5 (c := 60) (s := sv) (by decide) sv1 sv2).up (by decide)) rfl ?_
          refine bcT_ne rfl (b01_f g1) ?_
          refine RT_step (pc2 := 15) rfl (fun _ _ => rfl) ?_
          refine rt_bip rfl k8_61 ?_
          refine ow_iv1 (l2 := ((1, tcl n lim a kd pl w le nu tk (Int32.ofNat 0) fp) :: (2, bcl bs) :: [(3, dcl3 P Dn lw cl id gl bo), (4, lng pn), (5, ia ri), (6, ia lf), (7, ia wa), (8, ia fo), (9, lng dn), (10, ia ha), (11, ia pa), (12, ia bl), (110, .inr (7, [.int (Int32.ofNat o), .int (Int32.ofNat s), .ref 111, .ref 112, .ref 113, .ref 114])), (111, wrd ws), (112, ia sgl), (113, ia nbl)])) rfl rfl rfl rfl hlen rfl rfl rfl ((x_isMarkHere (ov_hl hlen) (ov_at rfl (ov_lt hlen (by decide))) hk5 (c := 61) (s := sv) (by decide) sv1 sv2).up (by decide)) rfl ?_
          refine bcF_ne rfl (b01_t g) ?_
          refine RT_step (pc2 := 39) rfl (fun _ _ => rfl) ?_
          refine ow_iv0 (l2 := ((1, tcl n lim a1 kd1 pl1 w1 le1 nu1 tk (Int32.ofNat 0) fp1) :: (2, bcl bs) :: [(3, dcl3 P Dn lw cl id gl bo), (4, lng pn), (5, ia ri), (6, ia lf), (7, ia wa), (8, ia fo), (9, lng dn), (10, ia ha), (11, ia pa), (12, ia bl), (110, .inr (7, [.int (Int32.ofNat o), .int (Int32.ofNat s), .ref 111, .ref 112, .ref 113, .ref 114])), (111, wrd ws), (112, ia sgl), (113, ia nbl)])) rfl rfl rfl rfl hlen rfl rfl rfl ((x1 _ (ov_hl hlen) (ov_at rfl (ov_lt hlen (by decide))) (ov_at rfl (ov_lt hlen (by decide)))).up (by decide)) rfl ?_
          refine RT_step (pc2 := 43) rfl (fun _ _ => rfl) ?_
          refine rt_ico rfl ki_0 ?_
          refine rt_sip rfl k16_999 ?_
          refine ow_iv1 (l2 := ((1, tcl n lim a3 kd3 pl3 w3 le3 nu3 (Int32.ofNat v) (Int32.ofNat 0) fp3) :: (2, bcl bs) :: [(3, dcl3 P Dn lw cl id gl bo), (4, lng pn), (5, ia ri), (6, ia lf), (7, ia wa), (8, ia fo), (9, lng dn), (10, ia ha), (11, ia pa), (12, ia bl), (110, .inr (7, [.int (Int32.ofNat o), .int (Int32.ofNat s), .ref 111, .ref 112, .ref 113, .ref 114])), (111, wrd ws), (112, ia sgl), (113, ia nbl)])) rfl rfl rfl rfl hlen rfl rfl rfl ((hx _ (ov_hl hlen) (ov_at rfl (ov_lt hlen (by decide))) (ov_at rfl (ov_lt hlen (by decide)))).up (by decide)) rfl ?_
          refine bcF_ne rfl (by decide) ?_
          refine RT_step (pc2 := 56) rfl (fun _ _ => rfl) ?_
          refine RT_step (pc2 := 57) rfl (fun _ _ => rfl) ?_
          refine RT_step (pc2 := 58) rfl (fun _ _ => rfl) ?_
          refine RT_step (pc2 := 59) rfl (fun _ _ => rfl) ?_
          refine ow_gf rfl rfl rfl hlen rfl ?_
          refine ow_iv0 (l2 := ((1, tcl n lim a3 kd3 pl3 w3 le3 nu3 (Int32.ofNat v) (Int32.ofNat 0) fp3) :: (2, bcl bs) :: [(3, dcl3 P Dn lw cl id gl bo), (4, lng pn), (5, ia ri), (6, ia lf), (7, ia wa), (8, ia fo), (9, lng dn), (10, ia ha), (11, ia pa), (12, ia bl), (110, .inr (7, [.int (Int32.ofNat o), .int (Int32.ofNat s2), .ref 111, .ref 112, .ref 113, .ref 114])), (111, wrd ws2), (112, ia sl2), (113, ia nb2)])) rfl rfl rfl rfl hlen rfl rfl rfl ((hadd _ _ (ov_hl hlen) (ov_at rfl (ov_lt hlen (by decide))) (ov_at rfl (ov_lt hlen (by decide))) (ov_at rfl (ov_lt hlen (by decide))) (ov_at rfl (ov_lt hlen (by decide)))).up (by decide)) rfl ?_
          refine rt_ico rfl ki_1 ?_
          exact ow_irt rfl rfl rfl
        · refine FR_st2 (l2 := ((180, mcl (Int32.ofNat 0) (Int32.ofNat 0) n lim a3 pl3 (km kd3) nm3 sg3 (Int32.ofNat 0) qm3 wd3 (Int32.ofNat v) (posn vs (nn + 1) o wi nn)) :: (181, mtl ts) :: [(182, ia nw), (187, lng nz), (202, ia ((((nl.set (4 * nn) (Int32.ofNat (50 + j0))).set (4 * nn + 1) (Int32.ofNat 0)).set (4 * nn + 2) (Int32.ofNat v)).set (4 * nn + 3) sg))])) rfl rfl rfl ?_
          refine RT_step (pc2 := 1) rfl (fun _ _ => rfl) ?_
          refine rt_bip rfl k8_60 ?_
          refine ow_iv1 (l2 := ((180, mcl (Int32.ofNat 0) (Int32.ofNat 0) n lim a pl (km kd) nm sg (Int32.ofNat 0) qm wd td (posn vs nn o wi tp)) :: (181, mtl ts) :: [(182, ia nw), (187, lng nz), (202, ia nl)])) rfl rfl rfl rfl hlen rfl rfl rfl ((m_isSign (ov_hl hlen) (ov_at rfl (ov_lt hlen (by decide))) k10 (c := 60) (s := sv) (by decide) sv1 sv3).up (by decide)) rfl ?_
          refine bcT_ne rfl (b01_f ((bq 60).trans g1)) ?_
          refine RT_step (pc2 := 10) rfl (fun _ _ => rfl) ?_
          refine rt_bip rfl k8_61 ?_
          refine ow_iv1 (l2 := ((180, mcl (Int32.ofNat 0) (Int32.ofNat 0) n lim a pl (km kd) nm sg (Int32.ofNat 0) qm wd td (posn vs nn o wi tp)) :: (181, mtl ts) :: [(182, ia nw), (187, lng nz), (202, ia nl)])) rfl rfl rfl rfl hlen rfl rfl rfl ((m_isSign (ov_hl hlen) (ov_at rfl (ov_lt hlen (by decide))) k10 (c := 61) (s := sv) (by decide) sv1 sv3).up (by decide)) rfl ?_
          refine bcF_ne rfl (b01_t ((bq 61).trans g)) ?_
          refine RT_step (pc2 := 34) rfl (fun _ _ => rfl) ?_
          refine ow_gf rfl rfl rfl hlen rfl ?_
          refine RT_step (pc2 := 38) rfl (fun _ _ => rfl) ?_
          refine RT_step (pc2 := 39) rfl (fun _ _ => rfl) ?_
          refine ow_iv0 (l2 := ((180, mcl (Int32.ofNat 0) (Int32.ofNat 0) n lim a1 pl1 (km kd1) nm1 sg1 (Int32.ofNat 0) qm1 wd1 td (posn vs nn o wi tp)) :: (181, mtl ts) :: [(182, ia nw), (187, lng nz), (202, ia nl)])) rfl rfl rfl rfl hlen rfl rfl rfl ((m1 _ (ov_hl hlen) (ov_at rfl (ov_lt hlen (by decide))) (ov_at rfl (ov_lt hlen (by decide)))).up (by decide)) rfl ?_
          refine RT_step (pc2 := 43) rfl (fun _ _ => rfl) ?_
          refine rt_ico rfl ki_0 ?_
          refine rt_sip rfl k16_999 ?_
          refine ow_iv1 (l2 := ((180, mcl (Int32.ofNat 0) (Int32.ofNat 0) n lim a3 pl3 (km kd3) nm3 sg3 (Int32.ofNat 0) qm3 wd3 (Int32.ofNat v) (posn vs nn o wi tp)) :: (181, mtl ts) :: [(182, ia nw), (187, lng nz), (202, ia nl)])) rfl rfl rfl rfl hlen rfl rfl rfl ((hm _ (ov_hl hlen) (ov_at rfl (ov_lt hlen (by decide))) (ov_at rfl (ov_lt hlen (by decide)))).up (by decide)) rfl ?_
          refine bcF_ne rfl (by decide) ?_
          refine RT_step (pc2 := 56) rfl (fun _ _ => rfl) ?_
          refine RT_step (pc2 := 57) rfl (fun _ _ => rfl) ?_
          refine rt_bip rfl k8_50 ?_
          refine RT_step (pc2 := 60) rfl (fun _ _ => rfl) ?_
          refine ba_iadd rfl ?_
          rw [n_add]
          refine rt_ico rfl ki_0 ?_
          refine RT_step (pc2 := 63) rfl (fun _ _ => rfl) ?_
          refine ow_gf rfl rfl rfl hlen rfl ?_
          refine RT_step (pc2 := 67) rfl (fun _ _ => rfl) ?_
          refine ow_iv1 (l2 := ((180, mcl (Int32.ofNat 0) (Int32.ofNat 0) n lim a3 pl3 (km kd3) nm3 sg3 (Int32.ofNat 0) qm3 wd3 (Int32.ofNat v) (posn vs (nn + 1) o wi tp)) :: (181, mtl ts) :: [(182, ia nw), (187, lng nz), (202, ia ((((nl.set (4 * nn) (Int32.ofNat (50 + j0))).set (4 * nn + 1) (Int32.ofNat 0)).set (4 * nn + 2) (Int32.ofNat v)).set (4 * nn + 3) sg))])) rfl rfl rfl rfl hlen rfl rfl rfl ((m_says (ov_hl hlen) (ov_at rfl (ov_lt hlen (by decide))) (ov_at rfl (ov_lt hlen (by decide))) ln hd).up (by decide)) rfl ?_
          refine ow_pf (l2 := ((180, mcl (Int32.ofNat 0) (Int32.ofNat 0) n lim a3 pl3 (km kd3) nm3 sg3 (Int32.ofNat 0) qm3 wd3 (Int32.ofNat v) (posn vs (nn + 1) o wi nn)) :: (181, mtl ts) :: [(182, ia nw), (187, lng nz), (202, ia ((((nl.set (4 * nn) (Int32.ofNat (50 + j0))).set (4 * nn + 1) (Int32.ofNat 0)).set (4 * nn + 2) (Int32.ofNat v)).set (4 * nn + 3) sg))])) rfl rfl rfl rfl rfl hlen rfl rfl ?_
          refine rt_ico rfl ki_1 ?_
          exact ow_irt rfl rfl rfl
      · refine ⟨fun H hlen => ?_, fun H hlen => ?_⟩
        · refine FR_st2 (l2 := ((1, tcl n lim a3 kd3 pl3 w3 le3 nu3 (Int32.ofNat v) (Int32.ofNat 0) fp3) :: (2, bcl bs) :: [(3, dcl3 P Dn lw cl id gl bo), (4, lng pn), (5, ia ri), (6, ia lf), (7, ia wa), (8, ia fo), (9, lng dn), (10, ia ha), (11, ia pa), (12, ia bl), (110, .inr (7, [.int (Int32.ofNat o), .int (Int32.ofNat s2), .ref 111, .ref 112, .ref 113, .ref 114])), (111, wrd ws2), (112, ia sl2), (113, ia nb2)])) rfl rfl rfl ?_
          refine RT_step (pc2 := 1) rfl (fun _ _ => rfl) ?_
          refine ow_gf rfl rfl rfl hlen rfl ?_
          refine RT_step (pc2 := 5) rfl (fun _ _ => rfl) ?_
          refine RT_step (pc2 := 6) rfl (fun _ _ => rfl) ?_
          refine rt_bip rfl k8_60 ?_
          refine ow_iv1 (l2 := ((1, tcl n lim a kd pl w le nu tk (Int32.ofNat 0) fp) :: (2, bcl bs) :: [(3, dcl3 P Dn lw cl id gl bo), (4, lng pn), (5, ia ri), (6, ia lf), (7, ia wa), (8, ia fo), (9, lng dn), (10, ia ha), (11, ia pa), (12, ia bl), (110, .inr (7, [.int (Int32.ofNat o), .int (Int32.ofNat s), .ref 111, .ref 112, .ref 113, .ref 114])), (111, wrd ws), (112, ia sgl), (113, ia nbl)])) rfl rfl rfl rfl hlen rfl rfl rfl ((x_isMarkHere (ov_hl hlen) (ov_at rfl (ov_lt hlen (by decide))) hk5 (c := 60) (s := sv) (by decide) sv1 sv2).up (by decide)) rfl ?_
          refine bcT_ne rfl (b01_f g1) ?_
          refine RT_step (pc2 := 15) rfl (fun _ _ => rfl) ?_
          refine rt_bip rfl k8_61 ?_
          refine ow_iv1 (l2 := ((1, tcl n lim a kd pl w le nu tk (Int32.ofNat 0) fp) :: (2, bcl bs) :: [(3, dcl3 P Dn lw cl id gl bo), (4, lng pn), (5, ia ri), (6, ia lf), (7, ia wa), (8, ia fo), (9, lng dn), (10, ia ha), (11, ia pa), (12, ia bl), (110, .inr (7, [.int (Int32.ofNat o), .int (Int32.ofNat s), .ref 111, .ref 112, .ref 113, .ref 114])), (111, wrd ws), (112, ia sgl), (113, ia nbl)])) rfl rfl rfl rfl hlen rfl rfl rfl ((x_isMarkHere (ov_hl hlen) (ov_at rfl (ov_lt hlen (by decide))) hk5 (c := 61) (s := sv) (by decide) sv1 sv2).up (by decide)) rfl ?_
          refine bcT_ne rfl (b01_f g2) ?_
          refine RT_step (pc2 := 24) rfl (fun _ _ => rfl) ?_
          refine rt_bip rfl k8_62 ?_
          refine ow_iv1 (l2 := ((1, tcl n lim a kd pl w le nu tk (Int32.ofNat 0) fp) :: (2, bcl bs) :: [(3, dcl3 P Dn lw cl id gl bo), (4, lng pn), (5, ia ri), (6, ia lf), (7, ia wa), (8, ia fo), (9, lng dn), (10, ia ha), (11, ia pa), (12, ia bl), (110, .inr (7, [.int (Int32.ofNat o), .int (Int32.ofNat s), .ref 111, .ref 112, .ref 113, .ref 114])), (111, wrd ws), (112, ia sgl), (113, ia nbl)])) rfl rfl rfl rfl hlen rfl rfl rfl ((x_isMarkHere (ov_hl hlen) (ov_at rfl (ov_lt hlen (by decide))) hk5 (c := 62) (s := sv) (by decide) sv1 sv2).up (by decide)) rfl ?_
          refine bcF_ne rfl (b01_t g) ?_
          refine RT_step (pc2 := 39) rfl (fun _ _ => rfl) ?_
          refine ow_iv0 (l2 := ((1, tcl n lim a1 kd1 pl1 w1 le1 nu1 tk (Int32.ofNat 0) fp1) :: (2, bcl bs) :: [(3, dcl3 P Dn lw cl id gl bo), (4, lng pn), (5, ia ri), (6, ia lf), (7, ia wa), (8, ia fo), (9, lng dn), (10, ia ha), (11, ia pa), (12, ia bl), (110, .inr (7, [.int (Int32.ofNat o), .int (Int32.ofNat s), .ref 111, .ref 112, .ref 113, .ref 114])), (111, wrd ws), (112, ia sgl), (113, ia nbl)])) rfl rfl rfl rfl hlen rfl rfl rfl ((x1 _ (ov_hl hlen) (ov_at rfl (ov_lt hlen (by decide))) (ov_at rfl (ov_lt hlen (by decide)))).up (by decide)) rfl ?_
          refine RT_step (pc2 := 43) rfl (fun _ _ => rfl) ?_
          refine rt_ico rfl ki_0 ?_
          refine rt_sip rfl k16_999 ?_
          refine ow_iv1 (l2 := ((1, tcl n lim a3 kd3 pl3 w3 le3 nu3 (Int32.ofNat v) (Int32.ofNat 0) fp3) :: (2, bcl bs) :: [(3, dcl3 P Dn lw cl id gl bo), (4, lng pn), (5, ia ri), (6, ia lf), (7, ia wa), (8, ia fo), (9, lng dn), (10, ia ha), (11, ia pa), (12, ia bl), (110, .inr (7, [.int (Int32.ofNat o), .int (Int32.ofNat s), .ref 111, .ref 112, .ref 113, .ref 114])), (111, wrd ws), (112, ia sgl), (113, ia nbl)])) rfl rfl rfl rfl hlen rfl rfl rfl ((hx _ (ov_hl hlen) (ov_at rfl (ov_lt hlen (by decide))) (ov_at rfl (ov_lt hlen (by decide)))).up (by decide)) rfl ?_
          refine bcF_ne rfl (by decide) ?_
          refine RT_step (pc2 := 56) rfl (fun _ _ => rfl) ?_
          refine RT_step (pc2 := 57) rfl (fun _ _ => rfl) ?_
          refine RT_step (pc2 := 58) rfl (fun _ _ => rfl) ?_
          refine RT_step (pc2 := 59) rfl (fun _ _ => rfl) ?_
          refine ow_gf rfl rfl rfl hlen rfl ?_
          refine ow_iv0 (l2 := ((1, tcl n lim a3 kd3 pl3 w3 le3 nu3 (Int32.ofNat v) (Int32.ofNat 0) fp3) :: (2, bcl bs) :: [(3, dcl3 P Dn lw cl id gl bo), (4, lng pn), (5, ia ri), (6, ia lf), (7, ia wa), (8, ia fo), (9, lng dn), (10, ia ha), (11, ia pa), (12, ia bl), (110, .inr (7, [.int (Int32.ofNat o), .int (Int32.ofNat s2), .ref 111, .ref 112, .ref 113, .ref 114])), (111, wrd ws2), (112, ia sl2), (113, ia nb2)])) rfl rfl rfl rfl hlen rfl rfl rfl ((hadd _ _ (ov_hl hlen) (ov_at rfl (ov_lt hlen (by decide))) (ov_at rfl (ov_lt hlen (by decide))) (ov_at rfl (ov_lt hlen (by decide))) (ov_at rfl (ov_lt hlen (by decide)))).up (by decide)) rfl ?_
          refine rt_ico rfl ki_1 ?_
          exact ow_irt rfl rfl rfl
        · refine FR_st2 (l2 := ((180, mcl (Int32.ofNat 0) (Int32.ofNat 0) n lim a3 pl3 (km kd3) nm3 sg3 (Int32.ofNat 0) qm3 wd3 (Int32.ofNat v) (posn vs (nn + 1) o wi nn)) :: (181, mtl ts) :: [(182, ia nw), (187, lng nz), (202, ia ((((nl.set (4 * nn) (Int32.ofNat (50 + j0))).set (4 * nn + 1) (Int32.ofNat 0)).set (4 * nn + 2) (Int32.ofNat v)).set (4 * nn + 3) sg))])) rfl rfl rfl ?_
          refine RT_step (pc2 := 1) rfl (fun _ _ => rfl) ?_
          refine rt_bip rfl k8_60 ?_
          refine ow_iv1 (l2 := ((180, mcl (Int32.ofNat 0) (Int32.ofNat 0) n lim a pl (km kd) nm sg (Int32.ofNat 0) qm wd td (posn vs nn o wi tp)) :: (181, mtl ts) :: [(182, ia nw), (187, lng nz), (202, ia nl)])) rfl rfl rfl rfl hlen rfl rfl rfl ((m_isSign (ov_hl hlen) (ov_at rfl (ov_lt hlen (by decide))) k10 (c := 60) (s := sv) (by decide) sv1 sv3).up (by decide)) rfl ?_
          refine bcT_ne rfl (b01_f ((bq 60).trans g1)) ?_
          refine RT_step (pc2 := 10) rfl (fun _ _ => rfl) ?_
          refine rt_bip rfl k8_61 ?_
          refine ow_iv1 (l2 := ((180, mcl (Int32.ofNat 0) (Int32.ofNat 0) n lim a pl (km kd) nm sg (Int32.ofNat 0) qm wd td (posn vs nn o wi tp)) :: (181, mtl ts) :: [(182, ia nw), (187, lng nz), (202, ia nl)])) rfl rfl rfl rfl hlen rfl rfl rfl ((m_isSign (ov_hl hlen) (ov_at rfl (ov_lt hlen (by decide))) k10 (c := 61) (s := sv) (by decide) sv1 sv3).up (by decide)) rfl ?_
          refine bcT_ne rfl (b01_f ((bq 61).trans g2)) ?_
          refine RT_step (pc2 := 19) rfl (fun _ _ => rfl) ?_
          refine rt_bip rfl k8_62 ?_
          refine ow_iv1 (l2 := ((180, mcl (Int32.ofNat 0) (Int32.ofNat 0) n lim a pl (km kd) nm sg (Int32.ofNat 0) qm wd td (posn vs nn o wi tp)) :: (181, mtl ts) :: [(182, ia nw), (187, lng nz), (202, ia nl)])) rfl rfl rfl rfl hlen rfl rfl rfl ((m_isSign (ov_hl hlen) (ov_at rfl (ov_lt hlen (by decide))) k10 (c := 62) (s := sv) (by decide) sv1 sv3).up (by decide)) rfl ?_
          refine bcF_ne rfl (b01_t ((bq 62).trans g)) ?_
          refine RT_step (pc2 := 34) rfl (fun _ _ => rfl) ?_
          refine ow_gf rfl rfl rfl hlen rfl ?_
          refine RT_step (pc2 := 38) rfl (fun _ _ => rfl) ?_
          refine RT_step (pc2 := 39) rfl (fun _ _ => rfl) ?_
          refine ow_iv0 (l2 := ((180, mcl (Int32.ofNat 0) (Int32.ofNat 0) n lim a1 pl1 (km kd1) nm1 sg1 (Int32.ofNat 0) qm1 wd1 td (posn vs nn o wi tp)) :: (181, mtl ts) :: [(182, ia nw), (187, lng nz), (202, ia nl)])) rfl rfl rfl rfl hlen rfl rfl rfl ((m1 _ (ov_hl hlen) (ov_at rfl (ov_lt hlen (by decide))) (ov_at rfl (ov_lt hlen (by decide)))).up (by decide)) rfl ?_
          refine RT_step (pc2 := 43) rfl (fun _ _ => rfl) ?_
          refine rt_ico rfl ki_0 ?_
          refine rt_sip rfl k16_999 ?_
          refine ow_iv1 (l2 := ((180, mcl (Int32.ofNat 0) (Int32.ofNat 0) n lim a3 pl3 (km kd3) nm3 sg3 (Int32.ofNat 0) qm3 wd3 (Int32.ofNat v) (posn vs nn o wi tp)) :: (181, mtl ts) :: [(182, ia nw), (187, lng nz), (202, ia nl)])) rfl rfl rfl rfl hlen rfl rfl rfl ((hm _ (ov_hl hlen) (ov_at rfl (ov_lt hlen (by decide))) (ov_at rfl (ov_lt hlen (by decide)))).up (by decide)) rfl ?_
          refine bcF_ne rfl (by decide) ?_
          refine RT_step (pc2 := 56) rfl (fun _ _ => rfl) ?_
          refine RT_step (pc2 := 57) rfl (fun _ _ => rfl) ?_
          refine rt_bip rfl k8_50 ?_
          refine RT_step (pc2 := 60) rfl (fun _ _ => rfl) ?_
          refine ba_iadd rfl ?_
          rw [n_add]
          refine rt_ico rfl ki_0 ?_
          refine RT_step (pc2 := 63) rfl (fun _ _ => rfl) ?_
          refine ow_gf rfl rfl rfl hlen rfl ?_
          refine RT_step (pc2 := 67) rfl (fun _ _ => rfl) ?_
          refine ow_iv1 (l2 := ((180, mcl (Int32.ofNat 0) (Int32.ofNat 0) n lim a3 pl3 (km kd3) nm3 sg3 (Int32.ofNat 0) qm3 wd3 (Int32.ofNat v) (posn vs (nn + 1) o wi tp)) :: (181, mtl ts) :: [(182, ia nw), (187, lng nz), (202, ia ((((nl.set (4 * nn) (Int32.ofNat (50 + j0))).set (4 * nn + 1) (Int32.ofNat 0)).set (4 * nn + 2) (Int32.ofNat v)).set (4 * nn + 3) sg))])) rfl rfl rfl rfl hlen rfl rfl rfl ((m_says (ov_hl hlen) (ov_at rfl (ov_lt hlen (by decide))) (ov_at rfl (ov_lt hlen (by decide))) ln hd).up (by decide)) rfl ?_
          refine ow_pf (l2 := ((180, mcl (Int32.ofNat 0) (Int32.ofNat 0) n lim a3 pl3 (km kd3) nm3 sg3 (Int32.ofNat 0) qm3 wd3 (Int32.ofNat v) (posn vs (nn + 1) o wi nn)) :: (181, mtl ts) :: [(182, ia nw), (187, lng nz), (202, ia ((((nl.set (4 * nn) (Int32.ofNat (50 + j0))).set (4 * nn + 1) (Int32.ofNat 0)).set (4 * nn + 2) (Int32.ofNat v)).set (4 * nn + 3) sg))])) rfl rfl rfl rfl rfl hlen rfl rfl ?_
          refine rt_ico rfl ki_1 ?_
          exact ow_irt rfl rfl rfl
  · have g1 : (Nat.beq kd 3 && Nat.beq sv 60) = false := Bool.eq_false_iff.mpr (fun e => cc (Or.inl e))
    have g2 : (Nat.beq kd 3 && Nat.beq sv 61) = false := Bool.eq_false_iff.mpr (fun e => cc (Or.inr (Or.inl e)))
    have g3 : (Nat.beq kd 3 && Nat.beq sv 62) = false := Bool.eq_false_iff.mpr (fun e => cc (Or.inr (Or.inr e)))
    obtain ⟨T, M, f, hx, hm⟩ := s_ref (bs := bs) (ts := ts) (lim := lim) (po := (posn vs nn o wi tp)) (pl := pl) (tk := tk) (td := td) (fp := fp) (plM := qm) t (kk := 1) (by decide) (by decide) (Or.inr rfl)
    refine Or.inl ⟨T, M, f, fun H hlen => ?_, fun H hlen => ?_⟩
    · refine FR_st2 (l2 := ((1, T) :: (2, bcl bs) :: [(3, dcl3 P Dn lw cl id gl bo), (4, lng pn), (5, ia ri), (6, ia lf), (7, ia wa), (8, ia fo), (9, lng dn), (10, ia ha), (11, ia pa), (12, ia bl), (110, .inr (7, [.int (Int32.ofNat o), .int (Int32.ofNat s), .ref 111, .ref 112, .ref 113, .ref 114])), (111, wrd ws), (112, ia sgl), (113, ia nbl)])) rfl rfl rfl ?_
      refine RT_step (pc2 := 1) rfl (fun _ _ => rfl) ?_
      refine ow_gf rfl rfl rfl hlen rfl ?_
      refine RT_step (pc2 := 5) rfl (fun _ _ => rfl) ?_
      refine RT_step (pc2 := 6) rfl (fun _ _ => rfl) ?_
      refine rt_bip rfl k8_60 ?_
      refine ow_iv1 (l2 := ((1, tcl n lim a kd pl w le nu tk (Int32.ofNat 0) fp) :: (2, bcl bs) :: [(3, dcl3 P Dn lw cl id gl bo), (4, lng pn), (5, ia ri), (6, ia lf), (7, ia wa), (8, ia fo), (9, lng dn), (10, ia ha), (11, ia pa), (12, ia bl), (110, .inr (7, [.int (Int32.ofNat o), .int (Int32.ofNat s), .ref 111, .ref 112, .ref 113, .ref 114])), (111, wrd ws), (112, ia sgl), (113, ia nbl)])) rfl rfl rfl rfl hlen rfl rfl rfl ((x_isMarkHere (ov_hl hlen) (ov_at rfl (ov_lt hlen (by decide))) hk5 (c := 60) (s := sv) (by decide) sv1 sv2).up (by decide)) rfl ?_
      refine bcT_ne rfl (b01_f g1) ?_
      refine RT_step (pc2 := 15) rfl (fun _ _ => rfl) ?_
      refine rt_bip rfl k8_61 ?_
      refine ow_iv1 (l2 := ((1, tcl n lim a kd pl w le nu tk (Int32.ofNat 0) fp) :: (2, bcl bs) :: [(3, dcl3 P Dn lw cl id gl bo), (4, lng pn), (5, ia ri), (6, ia lf), (7, ia wa), (8, ia fo), (9, lng dn), (10, ia ha), (11, ia pa), (12, ia bl), (110, .inr (7, [.int (Int32.ofNat o), .int (Int32.ofNat s), .ref 111, .ref 112, .ref 113, .ref 114])), (111, wrd ws), (112, ia sgl), (113, ia nbl)])) rfl rfl rfl rfl hlen rfl rfl rfl ((x_isMarkHere (ov_hl hlen) (ov_at rfl (ov_lt hlen (by decide))) hk5 (c := 61) (s := sv) (by decide) sv1 sv2).up (by decide)) rfl ?_
      refine bcT_ne rfl (b01_f g2) ?_
      refine RT_step (pc2 := 24) rfl (fun _ _ => rfl) ?_
      refine rt_bip rfl k8_62 ?_
      refine ow_iv1 (l2 := ((1, tcl n lim a kd pl w le nu tk (Int32.ofNat 0) fp) :: (2, bcl bs) :: [(3, dcl3 P Dn lw cl id gl bo), (4, lng pn), (5, ia ri), (6, ia lf), (7, ia wa), (8, ia fo), (9, lng dn), (10, ia ha), (11, ia pa), (12, ia bl), (110, .inr (7, [.int (Int32.ofNat o), .int (Int32.ofNat s), .ref 111, .ref 112, .ref 113, .ref 114])), (111, wrd ws), (112, ia sgl), (113, ia nbl)])) rfl rfl rfl rfl hlen rfl rfl rfl ((x_isMarkHere (ov_hl hlen) (ov_at rfl (ov_lt hlen (by decide))) hk5 (c := 62) (s := sv) (by decide) sv1 sv2).up (by decide)) rfl ?_
      refine bcT_ne rfl (b01_f g3) ?_
      refine RT_step (pc2 := 33) rfl (fun _ _ => rfl) ?_
      refine rt_ico rfl ki_1 ?_
      refine ow_iv1 (l2 := ((1, T) :: (2, bcl bs) :: [(3, dcl3 P Dn lw cl id gl bo), (4, lng pn), (5, ia ri), (6, ia lf), (7, ia wa), (8, ia fo), (9, lng dn), (10, ia ha), (11, ia pa), (12, ia bl), (110, .inr (7, [.int (Int32.ofNat o), .int (Int32.ofNat s), .ref 111, .ref 112, .ref 113, .ref 114])), (111, wrd ws), (112, ia sgl), (113, ia nbl)])) rfl rfl rfl rfl hlen rfl rfl rfl ((hx _ (ov_hl hlen) (ov_at rfl (ov_lt hlen (by decide))) (ov_at rfl (ov_lt hlen (by decide)))).up (by decide)) rfl ?_
      exact ow_irt rfl rfl rfl
    · refine FR_st2 (l2 := ((180, M) :: (181, mtl ts) :: [(182, ia nw), (187, lng nz), (202, ia nl)])) rfl rfl rfl ?_
      refine RT_step (pc2 := 1) rfl (fun _ _ => rfl) ?_
      refine rt_bip rfl k8_60 ?_
      refine ow_iv1 (l2 := ((180, mcl (Int32.ofNat 0) (Int32.ofNat 0) n lim a pl (km kd) nm sg (Int32.ofNat 0) qm wd td (posn vs nn o wi tp)) :: (181, mtl ts) :: [(182, ia nw), (187, lng nz), (202, ia nl)])) rfl rfl rfl rfl hlen rfl rfl rfl ((m_isSign (ov_hl hlen) (ov_at rfl (ov_lt hlen (by decide))) k10 (c := 60) (s := sv) (by decide) sv1 sv3).up (by decide)) rfl ?_
      refine bcT_ne rfl (b01_f ((bq 60).trans g1)) ?_
      refine RT_step (pc2 := 10) rfl (fun _ _ => rfl) ?_
      refine rt_bip rfl k8_61 ?_
      refine ow_iv1 (l2 := ((180, mcl (Int32.ofNat 0) (Int32.ofNat 0) n lim a pl (km kd) nm sg (Int32.ofNat 0) qm wd td (posn vs nn o wi tp)) :: (181, mtl ts) :: [(182, ia nw), (187, lng nz), (202, ia nl)])) rfl rfl rfl rfl hlen rfl rfl rfl ((m_isSign (ov_hl hlen) (ov_at rfl (ov_lt hlen (by decide))) k10 (c := 61) (s := sv) (by decide) sv1 sv3).up (by decide)) rfl ?_
      refine bcT_ne rfl (b01_f ((bq 61).trans g2)) ?_
      refine RT_step (pc2 := 19) rfl (fun _ _ => rfl) ?_
      refine rt_bip rfl k8_62 ?_
      refine ow_iv1 (l2 := ((180, mcl (Int32.ofNat 0) (Int32.ofNat 0) n lim a pl (km kd) nm sg (Int32.ofNat 0) qm wd td (posn vs nn o wi tp)) :: (181, mtl ts) :: [(182, ia nw), (187, lng nz), (202, ia nl)])) rfl rfl rfl rfl hlen rfl rfl rfl ((m_isSign (ov_hl hlen) (ov_at rfl (ov_lt hlen (by decide))) k10 (c := 62) (s := sv) (by decide) sv1 sv3).up (by decide)) rfl ?_
      refine bcT_ne rfl (b01_f ((bq 62).trans g3)) ?_
      refine RT_step (pc2 := 28) rfl (fun _ _ => rfl) ?_
      refine rt_ico rfl ki_1 ?_
      refine ow_iv1 (l2 := ((180, M) :: (181, mtl ts) :: [(182, ia nw), (187, lng nz), (202, ia nl)])) rfl rfl rfl rfl hlen rfl rfl rfl ((hm _ (ov_hl hlen) (ov_at rfl (ov_lt hlen (by decide))) (ov_at rfl (ov_lt hlen (by decide)))).up (by decide)) rfl ?_
      exact ow_irt rfl rfl rfl
theorem st3_115 {B : Nat → Nat} {bs ts : List Int32} {vs : Nat → Value} {n lim : Nat} {k a kd pl w : Nat} {le : Int64} {nu tk td fp nm sg qm : Int32} {wd : Int64} {o s nn wi tp : Nat} {ws : List (Option Nat)} {sgl nbl nl nw : List Int32} {nz : List Int64} {P : Nat} {Dn : Nat} {lw : Int32} {cl : Int32} {id : Int32} {gl : Nat} {bo : Nat} {pn : List Int64} {ri : List Int32} {lf : List Int32} {wa : List Int32} {fo : List Int32} {dn : List Int64} {ha : List Int32} {pa : List Int32} {bl : List Int32} (hB : BY bs B) (hM : MY ts B) (hb : ∀ i, B i < 256) (hn : n ≤ 940) (hl : lim ≤ 940) (t : TF k n a kd w le nu nm sg wd) (hP : P ≤ 7) (lp : pn.length = 7) (lz : nz.length = 15) (hv : nw[0]? = some (Int32.ofNat P)) (hN : ∀ i, i < P → ∃ ss, nok ss ∧ pn[i]? = some (p5 ss) ∧ nz[0 + i]? = some (p27 ss)) (sx : SX s ws sgl nbl) (ln : nl.length = 240) (hd : nn < 60) (ho : o ≤ 20) (hw8 : wi ≤ 8) : (∃ T M, FC n lim (posn vs nn o wi tp) T M ∧ LSn 4 146 [.ref 115, .ref 1, .ref 3] 5 261 [.ref 180, .int (Int32.ofNat 25)] ((1, tcl n lim a kd pl w le nu tk (Int32.ofNat 0) fp) :: (2, bcl bs) :: [(3, dcl3 P Dn lw cl id gl bo), (4, lng pn), (5, ia ri), (6, ia lf), (7, ia wa), (8, ia fo), (9, lng dn), (10, ia ha), (11, ia pa), (12, ia bl), (115, .inr (7, [.int (Int32.ofNat o), .int (Int32.ofNat s), .ref 116, .ref 117, .ref 118, .ref 119])), (116, wrd ws), (117, ia sgl), (118, ia nbl)]) ((180, mcl (Int32.ofNat 0) (Int32.ofNat 0) n lim a pl (km kd) nm sg (Int32.ofNat 0) qm wd td (posn vs nn o wi tp)) :: (181, mtl ts) :: [(182, ia nw), (187, lng nz), (202, ia nl)]) (.int (Int32.ofNat 0)) (.int (Int32.ofNat 0)) [(1, T), (115, .inr (7, [.int (Int32.ofNat o), .int (Int32.ofNat s), .ref 116, .ref 117, .ref 118, .ref 119])), (116, wrd ws), (117, ia sgl), (118, ia nbl)] [(180, M), (202, ia nl)]) ∨ (∃ (tk2 td2 : Int32) (T M : AE) (s2 : Nat) (ws2 : List (Option Nat)) (sl2 nb2 nl2 : List Int32), TC n lim (posn vs (nn + 1) o wi nn) (k + 1) tk2 td2 T M ∧ SX s2 ws2 sl2 nb2 ∧ nl2.length = 240 ∧ LSn 4 146 [.ref 115, .ref 1, .ref 3] 5 261 [.ref 180, .int (Int32.ofNat 25)] ((1, tcl n lim a kd pl w le nu tk (Int32.ofNat 0) fp) :: (2, bcl bs) :: [(3, dcl3 P Dn lw cl id gl bo), (4, lng pn), (5, ia ri), (6, ia lf), (7, ia wa), (8, ia fo), (9, lng dn), (10, ia ha), (11, ia pa), (12, ia bl), (115, .inr (7, [.int (Int32.ofNat o), .int (Int32.ofNat s), .ref 116, .ref 117, .ref 118, .ref 119])), (116, wrd ws), (117, ia sgl), (118, ia nbl)]) ((180, mcl (Int32.ofNat 0) (Int32.ofNat 0) n lim a pl (km kd) nm sg (Int32.ofNat 0) qm wd td (posn vs nn o wi tp)) :: (181, mtl ts) :: [(182, ia nw), (187, lng nz), (202, ia nl)]) (.int (Int32.ofNat 1)) (.int (Int32.ofNat 1)) [(1, T), (115, .inr (7, [.int (Int32.ofNat o), .int (Int32.ofNat s2), .ref 116, .ref 117, .ref 118, .ref 119])), (116, wrd ws2), (117, ia sl2), (118, ia nb2)] [(180, M), (202, ia nl2)]) := by
  have hk := (km_is kd t.2.2.2.1).2.2.2.2.2
  have hw := t.2.2.2.2.1
  by_cases c : w = 1
  · have hk1 := w_k1 t (by omega)
    obtain ⟨rs, r1, r2, r3, r4, r5, r6⟩ := t.2.2.2.2.2.1 hk1
    have hr : nok rs := ⟨r1, r2, r3⟩
    have hnm : (Nat.beq (km kd) 2 && nmB wd 30 0) = true := by rw [w_nm t, c]; rfl
    have q1 := nm_eq hr hN
    rw [← r4, ← r5] at q1
    cases e1 : fd pn le 0 P 0 with
    | some j =>
      have hj := (fd_lt e1).2
      have e2 := q1.symm.trans e1
      obtain ⟨T1, M1, c1, x1, m1⟩ := s_adv hB hM hb hn hl (po := (posn vs nn o wi tp)) (pl := pl) (tk := tk) (td := (Int32.ofNat j)) (fp := fp) (plM := qm) t (by omega) (by omega)
      obtain ⟨a1, kd1, pl1, w1, le1, nu1, fp1, nm1, sg1, qm1, wd1, rfl, rfl, t1⟩ := c1
      obtain ⟨s2, ws2, sl2, nb2, sx2, hadd⟩ := sx_add115 sx (w := 27) (by decide) (Int32.ofNat 61) (Int32.ofNat j)
      refine Or.inr ⟨tk, (Int32.ofNat j), tcl n lim a1 kd1 pl1 w1 le1 nu1 tk (Int32.ofNat 0) fp1, mcl (Int32.ofNat 0) (Int32.ofNat 0) n lim a1 pl1 (km kd1) nm1 sg1 (Int32.ofNat 0) qm1 wd1 (Int32.ofNat j) (posn vs (nn + 1) o wi nn), s2, ws2, sl2, nb2, ((((nl.set (4 * nn) (Int32.ofNat 75)).set (4 * nn + 1) (Int32.ofNat j)).set (4 * nn + 2) (Int32.ofNat 0)).set (4 * nn + 3) (Int32.ofNat 0)), tf_td t1, sx2, (by simp only [List.length_set]; exact ln), fun H hlen => ?_, fun H hlen => ?_⟩
      · have hz : FR 2 71 [.ref 1, .ref 4, .int (Int32.ofNat P)] (ov H ((1, tcl n lim a kd pl w le nu tk (Int32.ofNat 0) fp) :: (2, bcl bs) :: [(3, dcl3 P Dn lw cl id gl bo), (4, lng pn), (5, ia ri), (6, ia lf), (7, ia wa), (8, ia fo), (9, lng dn), (10, ia ha), (11, ia pa), (12, ia bl), (115, .inr (7, [.int (Int32.ofNat o), .int (Int32.ofNat s), .ref 116, .ref 117, .ref 118, .ref 119])), (116, wrd ws), (117, ia sgl), (118, ia nbl)])) (some (.int (Int32.ofNat j)), ov (ov H ((1, tcl n lim a kd pl w le nu tk (Int32.ofNat 0) fp) :: (2, bcl bs) :: [(3, dcl3 P Dn lw cl id gl bo), (4, lng pn), (5, ia ri), (6, ia lf), (7, ia wa), (8, ia fo), (9, lng dn), (10, ia ha), (11, ia pa), (12, ia bl), (115, .inr (7, [.int (Int32.ofNat o), .int (Int32.ofNat s), .ref 116, .ref 117, .ref 118, .ref 119])), (116, wrd ws), (117, ia sgl), (118, ia nbl)])) [(1, tcl n lim a kd pl w le nu tk (Int32.ofNat 0) fp)]) := by
          refine FR_st2 (l2 := ((1, tcl n lim a kd pl w le nu tk (Int32.ofNat 0) fp) :: (2, bcl bs) :: [(3, dcl3 P Dn lw cl id gl bo), (4, lng pn), (5, ia ri), (6, ia lf), (7, ia wa), (8, ia fo), (9, lng dn), (10, ia ha), (11, ia pa), (12, ia bl), (115, .inr (7, [.int (Int32.ofNat o), .int (Int32.ofNat s), .ref 116, .ref 117, .ref 118, .ref 119])), (116, wrd ws), (117, ia sgl), (118, ia nbl)])) rfl rfl rfl ?_
          refine RT_step (pc2 := 1) rfl (fun _ _ => rfl) ?_
          refine ow_gf rfl rfl rfl hlen rfl ?_
          refine RT_step (pc2 := 7) rfl (fun _ _ => rfl) ?_
          refine rt_acE rfl (by omega) (by omega) ?_
          refine RT_if c ?_
          refine RT_step (pc2 := 19) rfl (fun _ _ => rfl) ?_
          refine RT_step (pc2 := 20) rfl (fun _ _ => rfl) ?_
          refine RT_step (pc2 := 21) rfl (fun _ _ => rfl) ?_
          refine ow_gf rfl rfl rfl hlen rfl ?_
          refine ow_is1 rfl rfl rfl rfl rfl ((x_find4 (ov_hl hlen) (ov_at rfl (ov_lt hlen (by decide))) (by omega) (by omega)).up (by decide)) rfl ?_
          rw [show fdI (fd pn le 0 P 0) = Int32.ofNat j from by rw [e1]; rfl]
          refine RT_step (pc2 := 28) rfl (fun _ _ => rfl) ?_
          refine RT_step (pc2 := 29) rfl (fun _ _ => rfl) ?_
          refine rt_ico rfl ki_m1 ?_
          refine biF_ne rfl (n_m1 (by omega)) ?_
          refine RT_step (pc2 := 40) rfl (fun _ _ => rfl) ?_
          exact ow_irt rfl rfl rfl
        have hy : FR 3 73 [.ref 3, .ref 1] (ov H ((1, tcl n lim a kd pl w le nu tk (Int32.ofNat 0) fp) :: (2, bcl bs) :: [(3, dcl3 P Dn lw cl id gl bo), (4, lng pn), (5, ia ri), (6, ia lf), (7, ia wa), (8, ia fo), (9, lng dn), (10, ia ha), (11, ia pa), (12, ia bl), (115, .inr (7, [.int (Int32.ofNat o), .int (Int32.ofNat s), .ref 116, .ref 117, .ref 118, .ref 119])), (116, wrd ws), (117, ia sgl), (118, ia nbl)])) (some (.int (Int32.ofNat j)), ov (ov H ((1, tcl n lim a kd pl w le nu tk (Int32.ofNat 0) fp) :: (2, bcl bs) :: [(3, dcl3 P Dn lw cl id gl bo), (4, lng pn), (5, ia ri), (6, ia lf), (7, ia wa), (8, ia fo), (9, lng dn), (10, ia ha), (11, ia pa), (12, ia bl), (115, .inr (7, [.int (Int32.ofNat o), .int (Int32.ofNat s), .ref 116, .ref 117, .ref 118, .ref 119])), (116, wrd ws), (117, ia sgl), (118, ia nbl)])) [(1, tcl n lim a kd pl w le nu tk (Int32.ofNat 0) fp)]) := by
          refine FR_st2 (l2 := ((1, tcl n lim a kd pl w le nu tk (Int32.ofNat 0) fp) :: (2, bcl bs) :: [(3, dcl3 P Dn lw cl id gl bo), (4, lng pn), (5, ia ri), (6, ia lf), (7, ia wa), (8, ia fo), (9, lng dn), (10, ia ha), (11, ia pa), (12, ia bl), (115, .inr (7, [.int (Int32.ofNat o), .int (Int32.ofNat s), .ref 116, .ref 117, .ref 118, .ref 119])), (116, wrd ws), (117, ia sgl), (118, ia nbl)])) rfl rfl rfl ?_
          refine RT_step (pc2 := 1) rfl (fun _ _ => rfl) ?_
          refine RT_step (pc2 := 2) rfl (fun _ _ => rfl) ?_
          refine ow_gf rfl rfl rfl hlen rfl ?_
          refine RT_step (pc2 := 6) rfl (fun _ _ => rfl) ?_
          refine ow_gf rfl rfl rfl hlen rfl ?_
          refine ow_is1 (l2 := ((1, tcl n lim a kd pl w le nu tk (Int32.ofNat 0) fp) :: (2, bcl bs) :: [(3, dcl3 P Dn lw cl id gl bo), (4, lng pn), (5, ia ri), (6, ia lf), (7, ia wa), (8, ia fo), (9, lng dn), (10, ia ha), (11, ia pa), (12, ia bl), (115, .inr (7, [.int (Int32.ofNat o), .int (Int32.ofNat s), .ref 116, .ref 117, .ref 118, .ref 119])), (116, wrd ws), (117, ia sgl), (118, ia nbl)])) rfl rfl rfl rfl rfl (hz.up (by decide)) rfl ?_
          exact ow_irt rfl rfl rfl
        refine FR_st2 (l2 := ((1, tcl n lim a1 kd1 pl1 w1 le1 nu1 tk (Int32.ofNat 0) fp1) :: (2, bcl bs) :: [(3, dcl3 P Dn lw cl id gl bo), (4, lng pn), (5, ia ri), (6, ia lf), (7, ia wa), (8, ia fo), (9, lng dn), (10, ia ha), (11, ia pa), (12, ia bl), (115, .inr (7, [.int (Int32.ofNat o), .int (Int32.ofNat s2), .ref 116, .ref 117, .ref 118, .ref 119])), (116, wrd ws2), (117, ia sl2), (118, ia nb2)])) rfl rfl rfl ?_
        refine RT_step (pc2 := 1) rfl (fun _ _ => rfl) ?_
        refine RT_step (pc2 := 2) rfl (fun _ _ => rfl) ?_
        refine ow_iv1 (l2 := ((1, tcl n lim a kd pl w le nu tk (Int32.ofNat 0) fp) :: (2, bcl bs) :: [(3, dcl3 P Dn lw cl id gl bo), (4, lng pn), (5, ia ri), (6, ia lf), (7, ia wa), (8, ia fo), (9, lng dn), (10, ia ha), (11, ia pa), (12, ia bl), (115, .inr (7, [.int (Int32.ofNat o), .int (Int32.ofNat s), .ref 116, .ref 117, .ref 118, .ref 119])), (116, wrd ws), (117, ia sgl), (118, ia nbl)])) rfl rfl rfl rfl hlen rfl rfl rfl (hy.up (by decide)) rfl ?_
        refine RT_step (pc2 := 6) rfl (fun _ _ => rfl) ?_
        refine RT_step (pc2 := 7) rfl (fun _ _ => rfl) ?_
        refine rt_ico rfl ki_m1 ?_
        refine biF_ne rfl (n_m1 (by omega)) ?_
        refine RT_step (pc2 := 14) rfl (fun _ _ => rfl) ?_
        refine RT_step (pc2 := 17) rfl (fun _ _ => rfl) ?_
        refine rt_bip rfl k8_61 ?_
        refine RT_step (pc2 := 20) rfl (fun _ _ => rfl) ?_
        refine ow_iv0 (l2 := ((1, tcl n lim a kd pl w le nu tk (Int32.ofNat 0) fp) :: (2, bcl bs) :: [(3, dcl3 P Dn lw cl id gl bo), (4, lng pn), (5, ia ri), (6, ia lf), (7, ia wa), (8, ia fo), (9, lng dn), (10, ia ha), (11, ia pa), (12, ia bl), (115, .inr (7, [.int (Int32.ofNat o), .int (Int32.ofNat s2), .ref 116, .ref 117, .ref 118, .ref 119])), (116, wrd ws2), (117, ia sl2), (118, ia nb2)])) rfl rfl rfl rfl hlen rfl rfl rfl ((hadd _ _ (ov_hl hlen) (ov_at rfl (ov_lt hlen (by decide))) (ov_at rfl (ov_lt hlen (by decide))) (ov_at rfl (ov_lt hlen (by decide))) (ov_at rfl (ov_lt hlen (by decide)))).up (by decide)) rfl ?_
        refine RT_step (pc2 := 24) rfl (fun _ _ => rfl) ?_
        refine ow_iv0 (l2 := ((1, tcl n lim a1 kd1 pl1 w1 le1 nu1 tk (Int32.ofNat 0) fp1) :: (2, bcl bs) :: [(3, dcl3 P Dn lw cl id gl bo), (4, lng pn), (5, ia ri), (6, ia lf), (7, ia wa), (8, ia fo), (9, lng dn), (10, ia ha), (11, ia pa), (12, ia bl), (115, .inr (7, [.int (Int32.ofNat o), .int (Int32.ofNat s2), .ref 116, .ref 117, .ref 118, .ref 119])), (116, wrd ws2), (117, ia sl2), (118, ia nb2)])) rfl rfl rfl rfl hlen rfl rfl rfl ((x1 _ (ov_hl hlen) (ov_at rfl (ov_lt hlen (by decide))) (ov_at rfl (ov_lt hlen (by decide)))).up (by decide)) rfl ?_
        refine rt_ico rfl ki_1 ?_
        exact ow_irt rfl rfl rfl
      · have hy : FR 4 257 [.ref 180, .int (Int32.ofNat 0), .int (Int32.ofNat P)] (ov H ((180, mcl (Int32.ofNat 0) (Int32.ofNat 0) n lim a pl (km kd) nm sg (Int32.ofNat 0) qm wd td (posn vs nn o wi tp)) :: (181, mtl ts) :: [(182, ia nw), (187, lng nz), (202, ia nl)])) (some (.int (Int32.ofNat 1)), ov (ov H ((180, mcl (Int32.ofNat 0) (Int32.ofNat 0) n lim a pl (km kd) nm sg (Int32.ofNat 0) qm wd td (posn vs nn o wi tp)) :: (181, mtl ts) :: [(182, ia nw), (187, lng nz), (202, ia nl)])) [(180, mcl (Int32.ofNat 0) (Int32.ofNat 0) n lim a1 pl1 (km kd1) nm1 sg1 (Int32.ofNat 0) qm1 wd1 (Int32.ofNat j) (posn vs nn o wi tp))]) := by
          refine FR_st2 (l2 := ((180, mcl (Int32.ofNat 0) (Int32.ofNat 0) n lim a1 pl1 (km kd1) nm1 sg1 (Int32.ofNat 0) qm1 wd1 (Int32.ofNat j) (posn vs nn o wi tp)) :: (181, mtl ts) :: [(182, ia nw), (187, lng nz), (202, ia nl)])) rfl rfl rfl ?_
          refine RT_step (pc2 := 1) rfl (fun _ _ => rfl) ?_
          refine ow_iv1 rfl rfl rfl rfl hlen rfl rfl rfl ((m_isName (ov_hl hlen) (ov_at rfl (ov_lt hlen (by decide))) hk).up (by decide)) rfl ?_
          refine bcF_ne rfl (b01_t hnm) ?_
          refine RT_step (pc2 := 14) rfl (fun _ _ => rfl) ?_
          refine RT_step (pc2 := 15) rfl (fun _ _ => rfl) ?_
          refine ow_gf rfl rfl rfl hlen rfl ?_
          refine RT_step (pc2 := 19) rfl (fun _ _ => rfl) ?_
          refine RT_step (pc2 := 20) rfl (fun _ _ => rfl) ?_
          refine RT_step (pc2 := 21) rfl (fun _ _ => rfl) ?_
          refine ow_gf rfl rfl rfl hlen rfl ?_
          refine ow_is1 rfl rfl rfl rfl rfl ((m_find7 (bs0 := 0) (cnt := P) (ov_hl hlen) (ov_at rfl (ov_lt hlen (by decide))) (by omega) (by omega)).up (by decide)) rfl ?_
          rw [show fdI (fd nz wd 0 P 0) = Int32.ofNat j from by rw [e2]; rfl]
          refine ow_pf (l2 := ((180, mcl (Int32.ofNat 0) (Int32.ofNat 0) n lim a pl (km kd) nm sg (Int32.ofNat 0) qm wd (Int32.ofNat j) (posn vs nn o wi tp)) :: (181, mtl ts) :: [(182, ia nw), (187, lng nz), (202, ia nl)])) rfl rfl rfl rfl rfl hlen rfl rfl ?_
          refine RT_step (pc2 := 31) rfl (fun _ _ => rfl) ?_
          refine ow_gf rfl rfl rfl hlen rfl ?_
          refine rt_ico rfl ki_m1 ?_
          refine biF_ne rfl (n_m1 (by omega)) ?_
          refine RT_step (pc2 := 45) rfl (fun _ _ => rfl) ?_
          refine ow_iv0 (l2 := ((180, mcl (Int32.ofNat 0) (Int32.ofNat 0) n lim a1 pl1 (km kd1) nm1 sg1 (Int32.ofNat 0) qm1 wd1 (Int32.ofNat j) (posn vs nn o wi tp)) :: (181, mtl ts) :: [(182, ia nw), (187, lng nz), (202, ia nl)])) rfl rfl rfl rfl hlen rfl rfl rfl ((m1 _ (ov_hl hlen) (ov_at rfl (ov_lt hlen (by decide))) (ov_at rfl (ov_lt hlen (by decide)))).up (by decide)) rfl ?_
          refine rt_ico rfl ki_1 ?_
          exact ow_irt rfl rfl rfl
        refine FR_st2 (l2 := ((180, mcl (Int32.ofNat 0) (Int32.ofNat 0) n lim a1 pl1 (km kd1) nm1 sg1 (Int32.ofNat 0) qm1 wd1 (Int32.ofNat j) (posn vs (nn + 1) o wi nn)) :: (181, mtl ts) :: [(182, ia nw), (187, lng nz), (202, ia ((((nl.set (4 * nn) (Int32.ofNat 75)).set (4 * nn + 1) (Int32.ofNat j)).set (4 * nn + 2) (Int32.ofNat 0)).set (4 * nn + 3) (Int32.ofNat 0)))])) rfl rfl rfl ?_
        refine RT_step (pc2 := 1) rfl (fun _ _ => rfl) ?_
        refine rt_ico rfl ki_0 ?_
        refine RT_step (pc2 := 3) rfl (fun _ _ => rfl) ?_
        refine ow_gf rfl rfl rfl hlen rfl ?_
        refine rt_ico rfl ki_0 ?_
        refine ow_ialN rfl rfl hv (by omega) hlen rfl ?_
        refine ow_iv1 (l2 := ((180, mcl (Int32.ofNat 0) (Int32.ofNat 0) n lim a1 pl1 (km kd1) nm1 sg1 (Int32.ofNat 0) qm1 wd1 (Int32.ofNat j) (posn vs nn o wi tp)) :: (181, mtl ts) :: [(182, ia nw), (187, lng nz), (202, ia nl)])) rfl rfl rfl rfl hlen rfl rfl rfl (hy.up (by decide)) rfl ?_
        refine bcF_ne rfl (by decide) ?_
        refine RT_step (pc2 := 17) rfl (fun _ _ => rfl) ?_
        refine RT_step (pc2 := 18) rfl (fun _ _ => rfl) ?_
        refine rt_bip rfl k8_50 ?_
        refine RT_step (pc2 := 21) rfl (fun _ _ => rfl) ?_
        refine ba_iadd rfl ?_
        rw [n_add]
        refine RT_step (pc2 := 23) rfl (fun _ _ => rfl) ?_
        refine ow_gf rfl rfl rfl hlen rfl ?_
        refine rt_ico rfl ki_0 ?_
        refine rt_ico rfl ki_0 ?_
        refine ow_iv1 (l2 := ((180, mcl (Int32.ofNat 0) (Int32.ofNat 0) n lim a1 pl1 (km kd1) nm1 sg1 (Int32.ofNat 0) qm1 wd1 (Int32.ofNat j) (posn vs (nn + 1) o wi tp)) :: (181, mtl ts) :: [(182, ia nw), (187, lng nz), (202, ia ((((nl.set (4 * nn) (Int32.ofNat 75)).set (4 * nn + 1) (Int32.ofNat j)).set (4 * nn + 2) (Int32.ofNat 0)).set (4 * nn + 3) (Int32.ofNat 0)))])) rfl rfl rfl rfl hlen rfl rfl rfl ((m_says (ov_hl hlen) (ov_at rfl (ov_lt hlen (by decide))) (ov_at rfl (ov_lt hlen (by decide))) ln hd).up (by decide)) rfl ?_
        refine ow_pf (l2 := ((180, mcl (Int32.ofNat 0) (Int32.ofNat 0) n lim a1 pl1 (km kd1) nm1 sg1 (Int32.ofNat 0) qm1 wd1 (Int32.ofNat j) (posn vs (nn + 1) o wi nn)) :: (181, mtl ts) :: [(182, ia nw), (187, lng nz), (202, ia ((((nl.set (4 * nn) (Int32.ofNat 75)).set (4 * nn + 1) (Int32.ofNat j)).set (4 * nn + 2) (Int32.ofNat 0)).set (4 * nn + 3) (Int32.ofNat 0)))])) rfl rfl rfl rfl rfl hlen rfl rfl ?_
        refine rt_ico rfl ki_1 ?_
        exact ow_irt rfl rfl rfl
    | none =>
      have e2 := q1.symm.trans e1
      obtain ⟨T, M, f, hx, hm⟩ := s_ref (bs := bs) (ts := ts) (lim := lim) (po := (posn vs nn o wi tp)) (pl := pl) (tk := tk) (td := (-1 : Int32)) (fp := fp) (plM := qm) t (kk := 3) (by decide) (by decide) (Or.inl (by omega))
      refine Or.inl ⟨T, M, f, fun H hlen => ?_, fun H hlen => ?_⟩
      · have hz : FR 2 71 [.ref 1, .ref 4, .int (Int32.ofNat P)] (ov H ((1, tcl n lim a kd pl w le nu tk (Int32.ofNat 0) fp) :: (2, bcl bs) :: [(3, dcl3 P Dn lw cl id gl bo), (4, lng pn), (5, ia ri), (6, ia lf), (7, ia wa), (8, ia fo), (9, lng dn), (10, ia ha), (11, ia pa), (12, ia bl), (115, .inr (7, [.int (Int32.ofNat o), .int (Int32.ofNat s), .ref 116, .ref 117, .ref 118, .ref 119])), (116, wrd ws), (117, ia sgl), (118, ia nbl)])) (some (.int (-1 : Int32)), ov (ov H ((1, tcl n lim a kd pl w le nu tk (Int32.ofNat 0) fp) :: (2, bcl bs) :: [(3, dcl3 P Dn lw cl id gl bo), (4, lng pn), (5, ia ri), (6, ia lf), (7, ia wa), (8, ia fo), (9, lng dn), (10, ia ha), (11, ia pa), (12, ia bl), (115, .inr (7, [.int (Int32.ofNat o), .int (Int32.ofNat s), .ref 116, .ref 117, .ref 118, .ref 119])), (116, wrd ws), (117, ia sgl), (118, ia nbl)])) [(1, T)]) := by
          refine FR_st2 (l2 := ((1, T) :: (2, bcl bs) :: [(3, dcl3 P Dn lw cl id gl bo), (4, lng pn), (5, ia ri), (6, ia lf), (7, ia wa), (8, ia fo), (9, lng dn), (10, ia ha), (11, ia pa), (12, ia bl), (115, .inr (7, [.int (Int32.ofNat o), .int (Int32.ofNat s), .ref 116, .ref 117, .ref 118, .ref 119])), (116, wrd ws), (117, ia sgl), (118, ia nbl)])) rfl rfl rfl ?_
          refine RT_step (pc2 := 1) rfl (fun _ _ => rfl) ?_
          refine ow_gf rfl rfl rfl hlen rfl ?_
          refine RT_step (pc2 := 7) rfl (fun _ _ => rfl) ?_
          refine rt_acE rfl (by omega) (by omega) ?_
          refine RT_if c ?_
          refine RT_step (pc2 := 19) rfl (fun _ _ => rfl) ?_
          refine RT_step (pc2 := 20) rfl (fun _ _ => rfl) ?_
          refine RT_step (pc2 := 21) rfl (fun _ _ => rfl) ?_
          refine ow_gf rfl rfl rfl hlen rfl ?_
          refine ow_is1 rfl rfl rfl rfl rfl ((x_find4 (ov_hl hlen) (ov_at rfl (ov_lt hlen (by decide))) (by omega) (by omega)).up (by decide)) rfl ?_
          rw [show fdI (fd pn le 0 P 0) = (-1 : Int32) from by rw [e1]; rfl]
          refine RT_step (pc2 := 28) rfl (fun _ _ => rfl) ?_
          refine RT_step (pc2 := 29) rfl (fun _ _ => rfl) ?_
          refine rt_ico rfl ki_m1 ?_
          refine biT_ne rfl rfl ?_
          refine RT_step (pc2 := 34) rfl (fun _ _ => rfl) ?_
          refine rt_ico rfl ki_3 ?_
          refine ow_iv1 rfl rfl rfl rfl hlen rfl rfl rfl ((hx _ (ov_hl hlen) (ov_at rfl (ov_lt hlen (by decide))) (ov_at rfl (ov_lt hlen (by decide)))).up (by decide)) rfl ?_
          refine RT_step (pc2 := 39) rfl (fun _ _ => rfl) ?_
          refine RT_step (pc2 := 40) rfl (fun _ _ => rfl) ?_
          exact ow_irt rfl rfl rfl
        have hy : FR 3 73 [.ref 3, .ref 1] (ov H ((1, tcl n lim a kd pl w le nu tk (Int32.ofNat 0) fp) :: (2, bcl bs) :: [(3, dcl3 P Dn lw cl id gl bo), (4, lng pn), (5, ia ri), (6, ia lf), (7, ia wa), (8, ia fo), (9, lng dn), (10, ia ha), (11, ia pa), (12, ia bl), (115, .inr (7, [.int (Int32.ofNat o), .int (Int32.ofNat s), .ref 116, .ref 117, .ref 118, .ref 119])), (116, wrd ws), (117, ia sgl), (118, ia nbl)])) (some (.int (-1 : Int32)), ov (ov H ((1, tcl n lim a kd pl w le nu tk (Int32.ofNat 0) fp) :: (2, bcl bs) :: [(3, dcl3 P Dn lw cl id gl bo), (4, lng pn), (5, ia ri), (6, ia lf), (7, ia wa), (8, ia fo), (9, lng dn), (10, ia ha), (11, ia pa), (12, ia bl), (115, .inr (7, [.int (Int32.ofNat o), .int (Int32.ofNat s), .ref 116, .ref 117, .ref 118, .ref 119])), (116, wrd ws), (117, ia sgl), (118, ia nbl)])) [(1, T)]) := by
          refine FR_st2 (l2 := ((1, T) :: (2, bcl bs) :: [(3, dcl3 P Dn lw cl id gl bo), (4, lng pn), (5, ia ri), (6, ia lf), (7, ia wa), (8, ia fo), (9, lng dn), (10, ia ha), (11, ia pa), (12, ia bl), (115, .inr (7, [.int (Int32.ofNat o), .int (Int32.ofNat s), .ref 116, .ref 117, .ref 118, .ref 119])), (116, wrd ws), (117, ia sgl), (118, ia nbl)])) rfl rfl rfl ?_
          refine RT_step (pc2 := 1) rfl (fun _ _ => rfl) ?_
          refine RT_step (pc2 := 2) rfl (fun _ _ => rfl) ?_
          refine ow_gf rfl rfl rfl hlen rfl ?_
          refine RT_step (pc2 := 6) rfl (fun _ _ => rfl) ?_
          refine ow_gf rfl rfl rfl hlen rfl ?_
          refine ow_is1 (l2 := ((1, T) :: (2, bcl bs) :: [(3, dcl3 P Dn lw cl id gl bo), (4, lng pn), (5, ia ri), (6, ia lf), (7, ia wa), (8, ia fo), (9, lng dn), (10, ia ha), (11, ia pa), (12, ia bl), (115, .inr (7, [.int (Int32.ofNat o), .int (Int32.ofNat s), .ref 116, .ref 117, .ref 118, .ref 119])), (116, wrd ws), (117, ia sgl), (118, ia nbl)])) rfl rfl rfl rfl rfl (hz.up (by decide)) rfl ?_
          exact ow_irt rfl rfl rfl
        refine FR_st2 (l2 := ((1, T) :: (2, bcl bs) :: [(3, dcl3 P Dn lw cl id gl bo), (4, lng pn), (5, ia ri), (6, ia lf), (7, ia wa), (8, ia fo), (9, lng dn), (10, ia ha), (11, ia pa), (12, ia bl), (115, .inr (7, [.int (Int32.ofNat o), .int (Int32.ofNat s), .ref 116, .ref 117, .ref 118, .ref 119])), (116, wrd ws), (117, ia sgl), (118, ia nbl)])) rfl rfl rfl ?_
        refine RT_step (pc2 := 1) rfl (fun _ _ => rfl) ?_
        refine RT_step (pc2 := 2) rfl (fun _ _ => rfl) ?_
        refine ow_iv1 (l2 := ((1, T) :: (2, bcl bs) :: [(3, dcl3 P Dn lw cl id gl bo), (4, lng pn), (5, ia ri), (6, ia lf), (7, ia wa), (8, ia fo), (9, lng dn), (10, ia ha), (11, ia pa), (12, ia bl), (115, .inr (7, [.int (Int32.ofNat o), .int (Int32.ofNat s), .ref 116, .ref 117, .ref 118, .ref 119])), (116, wrd ws), (117, ia sgl), (118, ia nbl)])) rfl rfl rfl rfl hlen rfl rfl rfl (hy.up (by decide)) rfl ?_
        refine RT_step (pc2 := 6) rfl (fun _ _ => rfl) ?_
        refine RT_step (pc2 := 7) rfl (fun _ _ => rfl) ?_
        refine rt_ico rfl ki_m1 ?_
        refine biT_ne rfl rfl ?_
        refine rt_ico rfl ki_0 ?_
        exact ow_irt rfl rfl rfl
      · have hy : FR 4 257 [.ref 180, .int (Int32.ofNat 0), .int (Int32.ofNat P)] (ov H ((180, mcl (Int32.ofNat 0) (Int32.ofNat 0) n lim a pl (km kd) nm sg (Int32.ofNat 0) qm wd td (posn vs nn o wi tp)) :: (181, mtl ts) :: [(182, ia nw), (187, lng nz), (202, ia nl)])) (some (.int (Int32.ofNat 0)), ov (ov H ((180, mcl (Int32.ofNat 0) (Int32.ofNat 0) n lim a pl (km kd) nm sg (Int32.ofNat 0) qm wd td (posn vs nn o wi tp)) :: (181, mtl ts) :: [(182, ia nw), (187, lng nz), (202, ia nl)])) [(180, M)]) := by
          refine FR_st2 (l2 := ((180, M) :: (181, mtl ts) :: [(182, ia nw), (187, lng nz), (202, ia nl)])) rfl rfl rfl ?_
          refine RT_step (pc2 := 1) rfl (fun _ _ => rfl) ?_
          refine ow_iv1 rfl rfl rfl rfl hlen rfl rfl rfl ((m_isName (ov_hl hlen) (ov_at rfl (ov_lt hlen (by decide))) hk).up (by decide)) rfl ?_
          refine bcF_ne rfl (b01_t hnm) ?_
          refine RT_step (pc2 := 14) rfl (fun _ _ => rfl) ?_
          refine RT_step (pc2 := 15) rfl (fun _ _ => rfl) ?_
          refine ow_gf rfl rfl rfl hlen rfl ?_
          refine RT_step (pc2 := 19) rfl (fun _ _ => rfl) ?_
          refine RT_step (pc2 := 20) rfl (fun _ _ => rfl) ?_
          refine RT_step (pc2 := 21) rfl (fun _ _ => rfl) ?_
          refine ow_gf rfl rfl rfl hlen rfl ?_
          refine ow_is1 rfl rfl rfl rfl rfl ((m_find7 (bs0 := 0) (cnt := P) (ov_hl hlen) (ov_at rfl (ov_lt hlen (by decide))) (by omega) (by omega)).up (by decide)) rfl ?_
          rw [show fdI (fd nz wd 0 P 0) = (-1 : Int32) from by rw [e2]; rfl]
          refine ow_pf (l2 := ((180, mcl (Int32.ofNat 0) (Int32.ofNat 0) n lim a pl (km kd) nm sg (Int32.ofNat 0) qm wd (-1 : Int32) (posn vs nn o wi tp)) :: (181, mtl ts) :: [(182, ia nw), (187, lng nz), (202, ia nl)])) rfl rfl rfl rfl rfl hlen rfl rfl ?_
          refine RT_step (pc2 := 31) rfl (fun _ _ => rfl) ?_
          refine ow_gf rfl rfl rfl hlen rfl ?_
          refine rt_ico rfl ki_m1 ?_
          refine biT_ne rfl rfl ?_
          refine RT_step (pc2 := 39) rfl (fun _ _ => rfl) ?_
          refine rt_ico rfl ki_3 ?_
          refine ow_iv1 (l2 := ((180, M) :: (181, mtl ts) :: [(182, ia nw), (187, lng nz), (202, ia nl)])) rfl rfl rfl rfl hlen rfl rfl rfl ((hm _ (ov_hl hlen) (ov_at rfl (ov_lt hlen (by decide))) (ov_at rfl (ov_lt hlen (by decide)))).up (by decide)) rfl ?_
          exact ow_irt rfl rfl rfl
        refine FR_st2 (l2 := ((180, M) :: (181, mtl ts) :: [(182, ia nw), (187, lng nz), (202, ia nl)])) rfl rfl rfl ?_
        refine RT_step (pc2 := 1) rfl (fun _ _ => rfl) ?_
        refine rt_ico rfl ki_0 ?_
        refine RT_step (pc2 := 3) rfl (fun _ _ => rfl) ?_
        refine ow_gf rfl rfl rfl hlen rfl ?_
        refine rt_ico rfl ki_0 ?_
        refine ow_ialN rfl rfl hv (by omega) hlen rfl ?_
        refine ow_iv1 (l2 := ((180, M) :: (181, mtl ts) :: [(182, ia nw), (187, lng nz), (202, ia nl)])) rfl rfl rfl rfl hlen rfl rfl rfl (hy.up (by decide)) rfl ?_
        refine bcT_ne rfl rfl ?_
        refine rt_ico rfl ki_0 ?_
        exact ow_irt rfl rfl rfl
  · have hnm : (Nat.beq (km kd) 2 && nmB wd 30 0) = false := by rw [w_nm t]; exact decide_eq_false c
    obtain ⟨T, M, f, hx, hm⟩ := s_ref (bs := bs) (ts := ts) (lim := lim) (po := (posn vs nn o wi tp)) (pl := pl) (tk := tk) (td := td) (fp := fp) (plM := qm) t (kk := 1) (by decide) (by decide) (Or.inr rfl)
    refine Or.inl ⟨T, M, f, fun H hlen => ?_, fun H hlen => ?_⟩
    · have hz : FR 2 71 [.ref 1, .ref 4, .int (Int32.ofNat P)] (ov H ((1, tcl n lim a kd pl w le nu tk (Int32.ofNat 0) fp) :: (2, bcl bs) :: [(3, dcl3 P Dn lw cl id gl bo), (4, lng pn), (5, ia ri), (6, ia lf), (7, ia wa), (8, ia fo), (9, lng dn), (10, ia ha), (11, ia pa), (12, ia bl), (115, .inr (7, [.int (Int32.ofNat o), .int (Int32.ofNat s), .ref 116, .ref 117, .ref 118, .ref 119])), (116, wrd ws), (117, ia sgl), (118, ia nbl)])) (some (.int (-1 : Int32)), ov (ov H ((1, tcl n lim a kd pl w le nu tk (Int32.ofNat 0) fp) :: (2, bcl bs) :: [(3, dcl3 P Dn lw cl id gl bo), (4, lng pn), (5, ia ri), (6, ia lf), (7, ia wa), (8, ia fo), (9, lng dn), (10, ia ha), (11, ia pa), (12, ia bl), (115, .inr (7, [.int (Int32.ofNat o), .int (Int32.ofNat s), .ref 116, .ref 117, .ref 118, .ref 119])), (116, wrd ws), (117, ia sgl), (118, ia nbl)])) [(1, T)]) := by
        refine FR_st2 (l2 := ((1, T) :: (2, bcl bs) :: [(3, dcl3 P Dn lw cl id gl bo), (4, lng pn), (5, ia ri), (6, ia lf), (7, ia wa), (8, ia fo), (9, lng dn), (10, ia ha), (11, ia pa), (12, ia bl), (115, .inr (7, [.int (Int32.ofNat o), .int (Int32.ofNat s), .ref 116, .ref 117, .ref 118, .ref 119])), (116, wrd ws), (117, ia sgl), (118, ia nbl)])) rfl rfl rfl ?_
        refine RT_step (pc2 := 1) rfl (fun _ _ => rfl) ?_
        refine ow_gf rfl rfl rfl hlen rfl ?_
        refine RT_step (pc2 := 7) rfl (fun _ _ => rfl) ?_
        refine rt_acE rfl (by omega) (by omega) ?_
        refine RT_el c ?_
        refine RT_step (pc2 := 11) rfl (fun _ _ => rfl) ?_
        refine rt_ico rfl ki_1 ?_
        refine ow_iv1 rfl rfl rfl rfl hlen rfl rfl rfl ((hx _ (ov_hl hlen) (ov_at rfl (ov_lt hlen (by decide))) (ov_at rfl (ov_lt hlen (by decide)))).up (by decide)) rfl ?_
        refine RT_step (pc2 := 16) rfl (fun _ _ => rfl) ?_
        refine rt_ico rfl ki_m1 ?_
        exact ow_irt rfl rfl rfl
      have hy : FR 3 73 [.ref 3, .ref 1] (ov H ((1, tcl n lim a kd pl w le nu tk (Int32.ofNat 0) fp) :: (2, bcl bs) :: [(3, dcl3 P Dn lw cl id gl bo), (4, lng pn), (5, ia ri), (6, ia lf), (7, ia wa), (8, ia fo), (9, lng dn), (10, ia ha), (11, ia pa), (12, ia bl), (115, .inr (7, [.int (Int32.ofNat o), .int (Int32.ofNat s), .ref 116, .ref 117, .ref 118, .ref 119])), (116, wrd ws), (117, ia sgl), (118, ia nbl)])) (some (.int (-1 : Int32)), ov (ov H ((1, tcl n lim a kd pl w le nu tk (Int32.ofNat 0) fp) :: (2, bcl bs) :: [(3, dcl3 P Dn lw cl id gl bo), (4, lng pn), (5, ia ri), (6, ia lf), (7, ia wa), (8, ia fo), (9, lng dn), (10, ia ha), (11, ia pa), (12, ia bl), (115, .inr (7, [.int (Int32.ofNat o), .int (Int32.ofNat s), .ref 116, .ref 117, .ref 118, .ref 119])), (116, wrd ws), (117, ia sgl), (118, ia nbl)])) [(1, T)]) := by
        refine FR_st2 (l2 := ((1, T) :: (2, bcl bs) :: [(3, dcl3 P Dn lw cl id gl bo), (4, lng pn), (5, ia ri), (6, ia lf), (7, ia wa), (8, ia fo), (9, lng dn), (10, ia ha), (11, ia pa), (12, ia bl), (115, .inr (7, [.int (Int32.ofNat o), .int (Int32.ofNat s), .ref 116, .ref 117, .ref 118, .ref 119])), (116, wrd ws), (117, ia sgl), (118, ia nbl)])) rfl rfl rfl ?_
        refine RT_step (pc2 := 1) rfl (fun _ _ => rfl) ?_
        refine RT_step (pc2 := 2) rfl (fun _ _ => rfl) ?_
        refine ow_gf rfl rfl rfl hlen rfl ?_
        refine RT_step (pc2 := 6) rfl (fun _ _ => rfl) ?_
        refine ow_gf rfl rfl rfl hlen rfl ?_
        refine ow_is1 (l2 := ((1, T) :: (2, bcl bs) :: [(3, dcl3 P Dn lw cl id gl bo), (4, lng pn), (5, ia ri), (6, ia lf), (7, ia wa), (8, ia fo), (9, lng dn), (10, ia ha), (11, ia pa), (12, ia bl), (115, .inr (7, [.int (Int32.ofNat o), .int (Int32.ofNat s), .ref 116, .ref 117, .ref 118, .ref 119])), (116, wrd ws), (117, ia sgl), (118, ia nbl)])) rfl rfl rfl rfl rfl (hz.up (by decide)) rfl ?_
        exact ow_irt rfl rfl rfl
      refine FR_st2 (l2 := ((1, T) :: (2, bcl bs) :: [(3, dcl3 P Dn lw cl id gl bo), (4, lng pn), (5, ia ri), (6, ia lf), (7, ia wa), (8, ia fo), (9, lng dn), (10, ia ha), (11, ia pa), (12, ia bl), (115, .inr (7, [.int (Int32.ofNat o), .int (Int32.ofNat s), .ref 116, .ref 117, .ref 118, .ref 119])), (116, wrd ws), (117, ia sgl), (118, ia nbl)])) rfl rfl rfl ?_
      refine RT_step (pc2 := 1) rfl (fun _ _ => rfl) ?_
      refine RT_step (pc2 := 2) rfl (fun _ _ => rfl) ?_
      refine ow_iv1 (l2 := ((1, T) :: (2, bcl bs) :: [(3, dcl3 P Dn lw cl id gl bo), (4, lng pn), (5, ia ri), (6, ia lf), (7, ia wa), (8, ia fo), (9, lng dn), (10, ia ha), (11, ia pa), (12, ia bl), (115, .inr (7, [.int (Int32.ofNat o), .int (Int32.ofNat s), .ref 116, .ref 117, .ref 118, .ref 119])), (116, wrd ws), (117, ia sgl), (118, ia nbl)])) rfl rfl rfl rfl hlen rfl rfl rfl (hy.up (by decide)) rfl ?_
      refine RT_step (pc2 := 6) rfl (fun _ _ => rfl) ?_
      refine RT_step (pc2 := 7) rfl (fun _ _ => rfl) ?_
      refine rt_ico rfl ki_m1 ?_
      refine biT_ne rfl rfl ?_
      refine rt_ico rfl ki_0 ?_
      exact ow_irt rfl rfl rfl
    · have hy : FR 4 257 [.ref 180, .int (Int32.ofNat 0), .int (Int32.ofNat P)] (ov H ((180, mcl (Int32.ofNat 0) (Int32.ofNat 0) n lim a pl (km kd) nm sg (Int32.ofNat 0) qm wd td (posn vs nn o wi tp)) :: (181, mtl ts) :: [(182, ia nw), (187, lng nz), (202, ia nl)])) (some (.int (Int32.ofNat 0)), ov (ov H ((180, mcl (Int32.ofNat 0) (Int32.ofNat 0) n lim a pl (km kd) nm sg (Int32.ofNat 0) qm wd td (posn vs nn o wi tp)) :: (181, mtl ts) :: [(182, ia nw), (187, lng nz), (202, ia nl)])) [(180, M)]) := by
        refine FR_st2 (l2 := ((180, M) :: (181, mtl ts) :: [(182, ia nw), (187, lng nz), (202, ia nl)])) rfl rfl rfl ?_
        refine RT_step (pc2 := 1) rfl (fun _ _ => rfl) ?_
        refine ow_iv1 rfl rfl rfl rfl hlen rfl rfl rfl ((m_isName (ov_hl hlen) (ov_at rfl (ov_lt hlen (by decide))) hk).up (by decide)) rfl ?_
        refine bcT_ne rfl (b01_f hnm) ?_
        refine RT_step (pc2 := 8) rfl (fun _ _ => rfl) ?_
        refine rt_ico rfl ki_1 ?_
        refine ow_iv1 (l2 := ((180, M) :: (181, mtl ts) :: [(182, ia nw), (187, lng nz), (202, ia nl)])) rfl rfl rfl rfl hlen rfl rfl rfl ((hm _ (ov_hl hlen) (ov_at rfl (ov_lt hlen (by decide))) (ov_at rfl (ov_lt hlen (by decide)))).up (by decide)) rfl ?_
        exact ow_irt rfl rfl rfl
      refine FR_st2 (l2 := ((180, M) :: (181, mtl ts) :: [(182, ia nw), (187, lng nz), (202, ia nl)])) rfl rfl rfl ?_
      refine RT_step (pc2 := 1) rfl (fun _ _ => rfl) ?_
      refine rt_ico rfl ki_0 ?_
      refine RT_step (pc2 := 3) rfl (fun _ _ => rfl) ?_
      refine ow_gf rfl rfl rfl hlen rfl ?_
      refine rt_ico rfl ki_0 ?_
      refine ow_ialN rfl rfl hv (by omega) hlen rfl ?_
      refine ow_iv1 (l2 := ((180, M) :: (181, mtl ts) :: [(182, ia nw), (187, lng nz), (202, ia nl)])) rfl rfl rfl rfl hlen rfl rfl rfl (hy.up (by decide)) rfl ?_
      refine bcT_ne rfl rfl ?_
      refine rt_ico rfl ki_0 ?_
      exact ow_irt rfl rfl rfl
theorem sm3_115 {B : Nat → Nat} {bs ts : List Int32} {vs : Nat → Value} {n lim : Nat} {k a kd pl w : Nat} {le : Int64} {nu tk td fp nm sg qm : Int32} {wd : Int64} {o s nn wi tp : Nat} {ws : List (Option Nat)} {sgl nbl nl nw : List Int32} {nz : List Int64} {P : Nat} {Dn : Nat} {lw : Int32} {cl : Int32} {id : Int32} {gl : Nat} {bo : Nat} {pn : List Int64} {ri : List Int32} {lf : List Int32} {wa : List Int32} {fo : List Int32} {dn : List Int64} {ha : List Int32} {pa : List Int32} {bl : List Int32} (hB : BY bs B) (hM : MY ts B) (hb : ∀ i, B i < 256) (hn : n ≤ 940) (hl : lim ≤ 940) (t : TF k n a kd w le nu nm sg wd) (sx : SX s ws sgl nbl) (ln : nl.length = 240) (hd : nn < 60) (ho : o ≤ 20) (hw8 : wi ≤ 8) {w0 j0 : Nat} (hw0 : w0 < 32) (hj0 : j0 < 100) : (∃ T M, FC n lim (posn vs nn o wi tp) T M ∧ LSn 5 144 [.ref 115, .ref 1, .retAddr w0] 5 248 [.ref 180, .int (Int32.ofNat j0)] ((1, tcl n lim a kd pl w le nu tk (Int32.ofNat 0) fp) :: (2, bcl bs) :: [(3, dcl3 P Dn lw cl id gl bo), (4, lng pn), (5, ia ri), (6, ia lf), (7, ia wa), (8, ia fo), (9, lng dn), (10, ia ha), (11, ia pa), (12, ia bl), (115, .inr (7, [.int (Int32.ofNat o), .int (Int32.ofNat s), .ref 116, .ref 117, .ref 118, .ref 119])), (116, wrd ws), (117, ia sgl), (118, ia nbl)]) ((180, mcl (Int32.ofNat 0) (Int32.ofNat 0) n lim a pl (km kd) nm sg (Int32.ofNat 0) qm wd td (posn vs nn o wi tp)) :: (181, mtl ts) :: [(182, ia nw), (187, lng nz), (202, ia nl)]) (.int (Int32.ofNat 0)) (.int (Int32.ofNat 0)) [(1, T), (115, .inr (7, [.int (Int32.ofNat o), .int (Int32.ofNat s), .ref 116, .ref 117, .ref 118, .ref 119])), (116, wrd ws), (117, ia sgl), (118, ia nbl)] [(180, M), (202, ia nl)]) ∨ (∃ (tk2 td2 : Int32) (T M : AE) (s2 : Nat) (ws2 : List (Option Nat)) (sl2 nb2 nl2 : List Int32), TC n lim (posn vs (nn + 1) o wi nn) (k + 2) tk2 td2 T M ∧ SX s2 ws2 sl2 nb2 ∧ nl2.length = 240 ∧ LSn 5 144 [.ref 115, .ref 1, .retAddr w0] 5 248 [.ref 180, .int (Int32.ofNat j0)] ((1, tcl n lim a kd pl w le nu tk (Int32.ofNat 0) fp) :: (2, bcl bs) :: [(3, dcl3 P Dn lw cl id gl bo), (4, lng pn), (5, ia ri), (6, ia lf), (7, ia wa), (8, ia fo), (9, lng dn), (10, ia ha), (11, ia pa), (12, ia bl), (115, .inr (7, [.int (Int32.ofNat o), .int (Int32.ofNat s), .ref 116, .ref 117, .ref 118, .ref 119])), (116, wrd ws), (117, ia sgl), (118, ia nbl)]) ((180, mcl (Int32.ofNat 0) (Int32.ofNat 0) n lim a pl (km kd) nm sg (Int32.ofNat 0) qm wd td (posn vs nn o wi tp)) :: (181, mtl ts) :: [(182, ia nw), (187, lng nz), (202, ia nl)]) (.int (Int32.ofNat 1)) (.int (Int32.ofNat 1)) [(1, T), (115, .inr (7, [.int (Int32.ofNat o), .int (Int32.ofNat s2), .ref 116, .ref 117, .ref 118, .ref 119])), (116, wrd ws2), (117, ia sl2), (118, ia nb2)] [(180, M), (202, ia nl2)]) := by
  have hk := (km_is kd t.2.2.2.1).2.2.2.2.2
  obtain ⟨k2_, k1_, k3_, k4_, k0_, k10⟩ := km_is kd t.2.2.2.1
  obtain ⟨sv, sv1, sv2, sv3⟩ : ∃ sv : Nat, sv < 256 ∧ (kd = 3 → nu = Int32.ofNat sv) ∧ (km kd = 4 → sg = Int32.ofNat sv) := by
    by_cases c3 : kd = 3
    · obtain ⟨c, c1, c2, c4⟩ := t.2.2.2.2.2.2.2.2 c3
      exact ⟨c, c1, fun _ => c2, fun _ => c4⟩
    · exact ⟨0, by decide, fun e => absurd e c3, fun e => absurd (k4_.mp e) c3⟩
  have hk5 : kd < 10 := by have := t.2.2.2.1; omega
  have bq : ∀ c : Nat, (Nat.beq (km kd) 4 && Nat.beq sv c) = (Nat.beq kd 3 && Nat.beq sv c) := by
    intro c
    by_cases c3 : kd = 3
    · rw [c3]; rfl
    · rw [nbqf c3, nbqf (fun e => c3 (k4_.mp e))]
  by_cases cc : (Nat.beq kd 3 && Nat.beq sv 60) = true ∨ (Nat.beq kd 3 && Nat.beq sv 61) = true ∨ (Nat.beq kd 3 && Nat.beq sv 62) = true
  · have k3 : kd = 3 := by
      rcases cc with e | e | e <;> (rw [Bool.and_eq_true] at e; exact Nat.eq_of_beq_eq_true e.1)
    obtain ⟨T1, M1, c1, x1, m1⟩ := s_adv hB hM hb hn hl (po := (posn vs nn o wi tp)) (pl := pl) (tk := tk) (td := td) (fp := fp) (plM := qm) t (by omega) (by omega)
    obtain ⟨a1, kd1, pl1, w1, le1, nu1, fp1, nm1, sg1, qm1, wd1, rfl, rfl, t1⟩ := c1
    have e1 : nu = Int32.ofNat sv := sv2 k3
    have e2 : sg = Int32.ofNat sv := sv3 (k4_.mpr k3)
    rcases s_num hB hM hb hn hl (po := (posn vs nn o wi tp)) (pl := pl1) (tk := tk) (td := td) (fp := fp1) (plM := qm1) t1 (lo := 0) (hi := 999) (by decide) (by decide) with ⟨T, M, f, hx, hm⟩ | ⟨v, T3, M3, v1, v2, c3, hx, hm⟩
    · refine Or.inl ⟨T, M, f, ?_⟩
      rcases sgn3 cc with g | ⟨g1, g⟩ | ⟨g1, g2, g⟩
      · refine ⟨fun H hlen => ?_, fun H hlen => ?_⟩
        · refine FR_st2 (l2 := ((1, T) :: (2, bcl bs) :: [(3, dcl3 P Dn lw cl id gl bo), (4, lng pn), (5, ia ri), (6, ia lf), (7, ia wa), (8, ia fo), (9, lng dn), (10, ia ha), (11, ia pa), (12, ia bl), (115, .inr (7, [.int (Int32.ofNat o), .int (Int32.ofNat s), .ref 116, .ref 117, .ref 118, .ref 119])), (116, wrd ws), (117, ia sgl), (118, ia nbl)])) rfl rfl rfl ?_
          refine RT_step (pc2 := 1) rfl (fun _ _ => rfl) ?_
          refine ow_gf rfl rfl rfl hlen rfl ?_
          refine RT_step (pc2 := 5) rfl (fun _ _ => rfl) ?_
          refine RT_step (pc2 := 6) rfl (fun _ _ => rfl) ?_
          refine rt_bip rfl k8_60 ?_
          refine ow_iv1 (l2 := ((1, tcl n lim a kd pl w le nu tk (Int32.ofNat 0) fp) :: (2, bcl bs) :: [(3, dcl3 P Dn lw cl id gl bo), (4, lng pn), (5, ia ri), (6, ia lf), (7, ia wa), (8, ia fo), (9, lng dn), (10, ia ha), (11, ia pa), (12, ia bl), (115, .inr (7, [.int (Int32.ofNat o), .int (Int32.ofNat s), .ref 116, .ref 117, .ref 118, .ref 119])), (116, wrd ws), (117, ia sgl), (118, ia nbl)])) rfl rfl rfl rfl hlen rfl rfl rfl ((x_isMarkHere (ov_hl hlen) (ov_at rfl (ov_lt hlen (by decide))) hk5 (c := 60) (s := sv) (by decide) sv1 sv2).up (by decide)) rfl ?_
          refine bcF_ne rfl (b01_t g) ?_
          refine RT_step (pc2 := 39) rfl (fun _ _ => rfl) ?_
          refine ow_iv0 (l2 := ((1, tcl n lim a1 kd1 pl1 w1 le1 nu1 tk (Int32.ofNat 0) fp1) :: (2, bcl bs) :: [(3, dcl3 P Dn lw cl id gl bo), (4, lng pn), (5, ia ri), (6, ia lf), (7, ia wa), (8, ia fo), (9, lng dn), (10, ia ha), (11, ia pa), (12, ia bl), (115, .inr (7, [.int (Int32.ofNat o), .int (Int32.ofNat s), .ref 116, .ref 117, .ref 118, .ref 119])), (116, wrd ws), (117, ia sgl), (118, ia nbl)])) rfl rfl rfl rfl hlen rfl rfl rfl ((x1 _ (ov_hl hlen) (ov_at rfl (ov_lt hlen (by decide))) (ov_at rfl (ov_lt hlen (by decide)))).up (by decide)) rfl ?_
          refine RT_step (pc2 := 43) rfl (fun _ _ => rfl) ?_
          refine rt_ico rfl ki_0 ?_
          refine rt_sip rfl k16_999 ?_
          refine ow_iv1 (l2 := ((1, T) :: (2, bcl bs) :: [(3, dcl3 P Dn lw cl id gl bo), (4, lng pn), (5, ia ri), (6, ia lf), (7, ia wa), (8, ia fo), (9, lng dn), (10, ia ha), (11, ia pa), (12, ia bl), (115, .inr (7, [.int (Int32.ofNat o), .int (Int32.ofNat s), .ref 116, .ref 117, .ref 118, .ref 119])), (116, wrd ws), (117, ia sgl), (118, ia nbl)])) rfl rfl rfl rfl hlen rfl rfl rfl ((hx _ (ov_hl hlen) (ov_at rfl (ov_lt hlen (by decide))) (ov_at rfl (ov_lt hlen (by decide)))).up (by decide)) rfl ?_
          refine bcT_ne rfl rfl ?_
          refine rt_ico rfl ki_0 ?_
          exact ow_irt rfl rfl rfl
        · refine FR_st2 (l2 := ((180, M) :: (181, mtl ts) :: [(182, ia nw), (187, lng nz), (202, ia nl)])) rfl rfl rfl ?_
          refine RT_step (pc2 := 1) rfl (fun _ _ => rfl) ?_
          refine rt_bip rfl k8_60 ?_
          refine ow_iv1 (l2 := ((180, mcl (Int32.ofNat 0) (Int32.ofNat 0) n lim a pl (km kd) nm sg (Int32.ofNat 0) qm wd td (posn vs nn o wi tp)) :: (181, mtl ts) :: [(182, ia nw), (187, lng nz), (202, ia nl)])) rfl rfl rfl rfl hlen rfl rfl rfl ((m_isSign (ov_hl hlen) (ov_at rfl (ov_lt hlen (by decide))) k10 (c := 60) (s := sv) (by decide) sv1 sv3).up (by decide)) rfl ?_
          refine bcF_ne rfl (b01_t ((bq 60).trans g)) ?_
          refine RT_step (pc2 := 34) rfl (fun _ _ => rfl) ?_
          refine ow_gf rfl rfl rfl hlen rfl ?_
          refine RT_step (pc2 := 38) rfl (fun _ _ => rfl) ?_
          refine RT_step (pc2 := 39) rfl (fun _ _ => rfl) ?_
          refine ow_iv0 (l2 := ((180, mcl (Int32.ofNat 0) (Int32.ofNat 0) n lim a1 pl1 (km kd1) nm1 sg1 (Int32.ofNat 0) qm1 wd1 td (posn vs nn o wi tp)) :: (181, mtl ts) :: [(182, ia nw), (187, lng nz), (202, ia nl)])) rfl rfl rfl rfl hlen rfl rfl rfl ((m1 _ (ov_hl hlen) (ov_at rfl (ov_lt hlen (by decide))) (ov_at rfl (ov_lt hlen (by decide)))).up (by decide)) rfl ?_
          refine RT_step (pc2 := 43) rfl (fun _ _ => rfl) ?_
          refine rt_ico rfl ki_0 ?_
          refine rt_sip rfl k16_999 ?_
          refine ow_iv1 (l2 := ((180, M) :: (181, mtl ts) :: [(182, ia nw), (187, lng nz), (202, ia nl)])) rfl rfl rfl rfl hlen rfl rfl rfl ((hm _ (ov_hl hlen) (ov_at rfl (ov_lt hlen (by decide))) (ov_at rfl (ov_lt hlen (by decide)))).up (by decide)) rfl ?_
          refine bcT_ne rfl rfl ?_
          refine rt_ico rfl ki_0 ?_
          exact ow_irt rfl rfl rfl
      · refine ⟨fun H hlen => ?_, fun H hlen => ?_⟩
        · refine FR_st2 (l2 := ((1, T) :: (2, bcl bs) :: [(3, dcl3 P Dn lw cl id gl bo), (4, lng pn), (5, ia ri), (6, ia lf), (7, ia wa), (8, ia fo), (9, lng dn), (10, ia ha), (11, ia pa), (12, ia bl), (115, .inr (7, [.int (Int32.ofNat o), .int (Int32.ofNat s), .ref 116, .ref 117, .ref 118, .ref 119])), (116, wrd ws), (117, ia sgl), (118, ia nbl)])) rfl rfl rfl ?_
          refine RT_step (pc2 := 1) rfl (fun _ _ => rfl) ?_
          refine ow_gf rfl rfl rfl hlen rfl ?_
          refine RT_step (pc2 := 5) rfl (fun _ _ => rfl) ?_
          refine RT_step (pc2 := 6) rfl (fun _ _ => rfl) ?_
          refine rt_bip rfl k8_60 ?_
          refine ow_iv1 (l2 := ((1, tcl n lim a kd pl w le nu tk (Int32.ofNat 0) fp) :: (2, bcl bs) :: [(3, dcl3 P Dn lw cl id gl bo), (4, lng pn), (5, ia ri), (6, ia lf), (7, ia wa), (8, ia fo), (9, lng dn), (10, ia ha), (11, ia pa), (12, ia bl), (115, .inr (7, [.int (Int32.ofNat o), .int (Int32.ofNat s), .ref 116, .ref 117, .ref 118, .ref 119])), (116, wrd ws), (117, ia sgl), (118, ia nbl)])) rfl rfl rfl rfl hlen rfl rfl rfl ((x_isMarkHere (ov_hl hlen) (ov_at rfl (ov_lt hlen (by decide))) hk5 (c := 60) (s := sv) (by decide) sv1 sv2).up (by decide)) rfl ?_
          refine bcT_ne rfl (b01_f g1) ?_
          refine RT_step (pc2 := 15) rfl (fun _ _ => rfl) ?_
          refine rt_bip rfl k8_61 ?_
          refine ow_iv1 (l2 := ((1, tcl n lim a kd pl w le nu tk (Int32.ofNat 0) fp) :: (2, bcl bs) :: [(3, dcl3 P Dn lw cl id gl bo), (4, lng pn), (5, ia ri), (6, ia lf), (7, ia wa), (8, ia fo), (9, lng dn), (10, ia ha), (11, ia pa), (12, ia bl), (115, .inr (7, [.int (Int32.ofNat o), .int (Int32.ofNat s), .ref 116, .ref 117, .ref 118, .ref 119])), (116, wrd ws), (117, ia sgl), (118, ia nbl)])) rfl rfl rfl rfl hlen rfl rfl rfl ((x_isMarkHere (ov_hl hlen) (ov_at rfl (ov_lt hlen (by decide))) hk5 (c := 61) (s := sv) (by decide) sv1 sv2).up (by decide)) rfl ?_
          refine bcF_ne rfl (b01_t g) ?_
          refine RT_step (pc2 := 39) rfl (fun _ _ => rfl) ?_
          refine ow_iv0 (l2 := ((1, tcl n lim a1 kd1 pl1 w1 le1 nu1 tk (Int32.ofNat 0) fp1) :: (2, bcl bs) :: [(3, dcl3 P Dn lw cl id gl bo), (4, lng pn), (5, ia ri), (6, ia lf), (7, ia wa), (8, ia fo), (9, lng dn), (10, ia ha), (11, ia pa), (12, ia bl), (115, .inr (7, [.int (Int32.ofNat o), .int (Int32.ofNat s), .ref 116, .ref 117, .ref 118, .ref 119])), (116, wrd ws), (117, ia sgl), (118, ia nbl)])) rfl rfl rfl rfl hlen rfl rfl rfl ((x1 _ (ov_hl hlen) (ov_at rfl (ov_lt hlen (by decide))) (ov_at rfl (ov_lt hlen (by decide)))).up (by decide)) rfl ?_
          refine RT_step (pc2 := 43) rfl (fun _ _ => rfl) ?_
          refine rt_ico rfl ki_0 ?_
          refine rt_sip rfl k16_999 ?_
          refine ow_iv1 (l2 := ((1, T) :: (2, bcl bs) :: [(3, dcl3 P Dn lw cl id gl bo), (4, lng pn), (5, ia ri), (6, ia lf), (7, ia wa), (8, ia fo), (9, lng dn), (10, ia ha), (11, ia pa), (12, ia bl), (115, .inr (7, [.int (Int32.ofNat o), .int (Int32.ofNat s), .ref 116, .ref 117, .ref 118, .ref 119])), (116, wrd ws), (117, ia sgl), (118, ia nbl)])) rfl rfl rfl rfl hlen rfl rfl rfl ((hx _ (ov_hl hlen) (ov_at rfl (ov_lt hlen (by decide))) (ov_at rfl (ov_lt hlen (by decide)))).up (by decide)) rfl ?_
          refine bcT_ne rfl rfl ?_
          refine rt_ico rfl ki_0 ?_
          exact ow_irt rfl rfl rfl
        · refine FR_st2 (l2 := ((180, M) :: (181, mtl ts) :: [(182, ia nw), (187, lng nz), (202, ia nl)])) rfl rfl rfl ?_
          refine RT_step (pc2 := 1) rfl (fun _ _ => rfl) ?_
          refine rt_bip rfl k8_60 ?_
          refine ow_iv1 (l2 := ((180, mcl (Int32.ofNat 0) (Int32.ofNat 0) n lim a pl (km kd) nm sg (Int32.ofNat 0) qm wd td (posn vs nn o wi tp)) :: (181, mtl ts) :: [(182, ia nw), (187, lng nz), (202, ia nl)])) rfl rfl rfl rfl hlen rfl rfl rfl ((m_isSign (ov_hl hlen) (ov_at rfl (ov_lt hlen (by decide))) k10 (c := 60) (s := sv) (by decide) sv1 sv3).up (by decide)) rfl ?_
          refine bcT_ne rfl (b01_f ((bq 60).trans g1)) ?_
          refine RT_step (pc2 := 10) rfl (fun _ _ => rfl) ?_
          refine rt_bip rfl k8_61 ?_
          refine ow_iv1 (l2 := ((180, mcl (Int32.ofNat 0) (Int32.ofNat 0) n lim a pl (km kd) nm sg (Int32.ofNat 0) qm wd td (posn vs nn o wi tp)) :: (181, mtl ts) :: [(182, ia nw), (187, lng nz), (202, ia nl)])) rfl rfl rfl rfl hlen rfl rfl rfl ((m_isSign (ov_hl hlen) (ov_at rfl (ov_lt hlen (by decide))) k10 (c := 61) (s := sv) (by decide) sv1 sv3).up (by decide)) rfl ?_
          refine bcF_ne rfl (b01_t ((bq 61).trans g)) ?_
          refine RT_step (pc2 := 34) rfl (fun _ _ => rfl) ?_
          refine ow_gf rfl rfl rfl hlen rfl ?_
          refine RT_step (pc2 := 38) rfl (fun _ _ => rfl) ?_
          refine RT_step (pc2 := 39) rfl (fun _ _ => rfl) ?_
          refine ow_iv0 (l2 := ((180, mcl (Int32.ofNat 0) (Int32.ofNat 0) n lim a1 pl1 (km kd1) nm1 sg1 (Int32.ofNat 0) qm1 wd1 td (posn vs nn o wi tp)) :: (181, mtl ts) :: [(182, ia nw), (187, lng nz), (202, ia nl)])) rfl rfl rfl rfl hlen rfl rfl rfl ((m1 _ (ov_hl hlen) (ov_at rfl (ov_lt hlen (by decide))) (ov_at rfl (ov_lt hlen (by decide)))).up (by decide)) rfl ?_
          refine RT_step (pc2 := 43) rfl (fun _ _ => rfl) ?_
          refine rt_ico rfl ki_0 ?_
          refine rt_sip rfl k16_999 ?_
          refine ow_iv1 (l2 := ((180, M) :: (181, mtl ts) :: [(182, ia nw), (187, lng nz), (202, ia nl)])) rfl rfl rfl rfl hlen rfl rfl rfl ((hm _ (ov_hl hlen) (ov_at rfl (ov_lt hlen (by decide))) (ov_at rfl (ov_lt hlen (by decide)))).up (by decide)) rfl ?_
          refine bcT_ne rfl rfl ?_
          refine rt_ico rfl ki_0 ?_
          exact ow_irt rfl rfl rfl
      · refine ⟨fun H hlen => ?_, fun H hlen => ?_⟩
        · refine FR_st2 (l2 := ((1, T) :: (2, bcl bs) :: [(3, dcl3 P Dn lw cl id gl bo), (4, lng pn), (5, ia ri), (6, ia lf), (7, ia wa), (8, ia fo), (9, lng dn), (10, ia ha), (11, ia pa), (12, ia bl), (115, .inr (7, [.int (Int32.ofNat o), .int (Int32.ofNat s), .ref 116, .ref 117, .ref 118, .ref 119])), (116, wrd ws), (117, ia sgl), (118, ia nbl)])) rfl rfl rfl ?_
          refine RT_step (pc2 := 1) rfl (fun _ _ => rfl) ?_
          refine ow_gf rfl rfl rfl hlen rfl ?_
          refine RT_step (pc2 := 5) rfl (fun _ _ => rfl) ?_
          refine RT_step (pc2 := 6) rfl (fun _ _ => rfl) ?_
          refine rt_bip rfl k8_60 ?_
          refine ow_iv1 (l2 := ((1, tcl n lim a kd pl w le nu tk (Int32.ofNat 0) fp) :: (2, bcl bs) :: [(3, dcl3 P Dn lw cl id gl bo), (4, lng pn), (5, ia ri), (6, ia lf), (7, ia wa), (8, ia fo), (9, lng dn), (10, ia ha), (11, ia pa), (12, ia bl), (115, .inr (7, [.int (Int32.ofNat o), .int (Int32.ofNat s), .ref 116, .ref 117, .ref 118, .ref 119])), (116, wrd ws), (117, ia sgl), (118, ia nbl)])) rfl rfl rfl rfl hlen rfl rfl rfl ((x_isMarkHere (ov_hl hlen) (ov_at rfl (ov_lt hlen (by decide))) hk5 (c := 60) (s := sv) (by decide) sv1 sv2).up (by decide)) rfl ?_
          refine bcT_ne rfl (b01_f g1) ?_
          refine RT_step (pc2 := 15) rfl (fun _ _ => rfl) ?_
          refine rt_bip rfl k8_61 ?_
          refine ow_iv1 (l2 := ((1, tcl n lim a kd pl w le nu tk (Int32.ofNat 0) fp) :: (2, bcl bs) :: [(3, dcl3 P Dn lw cl id gl bo), (4, lng pn), (5, ia ri), (6, ia lf), (7, ia wa), (8, ia fo), (9, lng dn), (10, ia ha), (11, ia pa), (12, ia bl), (115, .inr (7, [.int (Int32.ofNat o), .int (Int32.ofNat s), .ref 116, .ref 117, .ref 118, .ref 119])), (116, wrd ws), (117, ia sgl), (118, ia nbl)])) rfl rfl rfl rfl hlen rfl rfl rfl ((x_isMarkHere (ov_hl hlen) (ov_at rfl (ov_lt hlen (by decide))) hk5 (c := 61) (s := sv) (by decide) sv1 sv2).up (by decide)) rfl ?_
          refine bcT_ne rfl (b01_f g2) ?_
          refine RT_step (pc2 := 24) rfl (fun _ _ => rfl) ?_
          refine rt_bip rfl k8_62 ?_
          refine ow_iv1 (l2 := ((1, tcl n lim a kd pl w le nu tk (Int32.ofNat 0) fp) :: (2, bcl bs) :: [(3, dcl3 P Dn lw cl id gl bo), (4, lng pn), (5, ia ri), (6, ia lf), (7, ia wa), (8, ia fo), (9, lng dn), (10, ia ha), (11, ia pa), (12, ia bl), (115, .inr (7, [.int (Int32.ofNat o), .int (Int32.ofNat s), .ref 116, .ref 117, .ref 118, .ref 119])), (116, wrd ws), (117, ia sgl), (118, ia nbl)])) rfl rfl rfl rfl hlen rfl rfl rfl ((x_isMarkHere (ov_hl hlen) (ov_at rfl (ov_lt hlen (by decide))) hk5 (c := 62) (s := sv) (by decide) sv1 sv2).up (by decide)) rfl ?_
          refine bcF_ne rfl (b01_t g) ?_
          refine RT_step (pc2 := 39) rfl (fun _ _ => rfl) ?_
          refine ow_iv0 (l2 := ((1, tcl n lim a1 kd1 pl1 w1 le1 nu1 tk (Int32.ofNat 0) fp1) :: (2, bcl bs) :: [(3, dcl3 P Dn lw cl id gl bo), (4, lng pn), (5, ia ri), (6, ia lf), (7, ia wa), (8, ia fo), (9, lng dn), (10, ia ha), (11, ia pa), (12, ia bl), (115, .inr (7, [.int (Int32.ofNat o), .int (Int32.ofNat s), .ref 116, .ref 117, .ref 118, .ref 119])), (116, wrd ws), (117, ia sgl), (118, ia nbl)])) rfl rfl rfl rfl hlen rfl rfl rfl ((x1 _ (ov_hl hlen) (ov_at rfl (ov_lt hlen (by decide))) (ov_at rfl (ov_lt hlen (by decide)))).up (by decide)) rfl ?_
          refine RT_step (pc2 := 43) rfl (fun _ _ => rfl) ?_
          refine rt_ico rfl ki_0 ?_
          refine rt_sip rfl k16_999 ?_
          refine ow_iv1 (l2 := ((1, T) :: (2, bcl bs) :: [(3, dcl3 P Dn lw cl id gl bo), (4, lng pn), (5, ia ri), (6, ia lf), (7, ia wa), (8, ia fo), (9, lng dn), (10, ia ha), (11, ia pa), (12, ia bl), (115, .inr (7, [.int (Int32.ofNat o), .int (Int32.ofNat s), .ref 116, .ref 117, .ref 118, .ref 119])), (116, wrd ws), (117, ia sgl), (118, ia nbl)])) rfl rfl rfl rfl hlen rfl rfl rfl ((hx _ (ov_hl hlen) (ov_at rfl (ov_lt hlen (by decide))) (ov_at rfl (ov_lt hlen (by decide)))).up (by decide)) rfl ?_
          refine bcT_ne rfl rfl ?_
          refine rt_ico rfl ki_0 ?_
          exact ow_irt rfl rfl rfl
        · refine FR_st2 (l2 := ((180, M) :: (181, mtl ts) :: [(182, ia nw), (187, lng nz), (202, ia nl)])) rfl rfl rfl ?_
          refine RT_step (pc2 := 1) rfl (fun _ _ => rfl) ?_
          refine rt_bip rfl k8_60 ?_
          refine ow_iv1 (l2 := ((180, mcl (Int32.ofNat 0) (Int32.ofNat 0) n lim a pl (km kd) nm sg (Int32.ofNat 0) qm wd td (posn vs nn o wi tp)) :: (181, mtl ts) :: [(182, ia nw), (187, lng nz), (202, ia nl)])) rfl rfl rfl rfl hlen rfl rfl rfl ((m_isSign (ov_hl hlen) (ov_at rfl (ov_lt hlen (by decide))) k10 (c := 60) (s := sv) (by decide) sv1 sv3).up (by decide)) rfl ?_
          refine bcT_ne rfl (b01_f ((bq 60).trans g1)) ?_
          refine RT_step (pc2 := 10) rfl (fun _ _ => rfl) ?_
          refine rt_bip rfl k8_61 ?_
          refine ow_iv1 (l2 := ((180, mcl (Int32.ofNat 0) (Int32.ofNat 0) n lim a pl (km kd) nm sg (Int32.ofNat 0) qm wd td (posn vs nn o wi tp)) :: (181, mtl ts) :: [(182, ia nw), (187, lng nz), (202, ia nl)])) rfl rfl rfl rfl hlen rfl rfl rfl ((m_isSign (ov_hl hlen) (ov_at rfl (ov_lt hlen (by decide))) k10 (c := 61) (s := sv) (by decide) sv1 sv3).up (by decide)) rfl ?_
          refine bcT_ne rfl (b01_f ((bq 61).trans g2)) ?_
          refine RT_step (pc2 := 19) rfl (fun _ _ => rfl) ?_
          refine rt_bip rfl k8_62 ?_
          refine ow_iv1 (l2 := ((180, mcl (Int32.ofNat 0) (Int32.ofNat 0) n lim a pl (km kd) nm sg (Int32.ofNat 0) qm wd td (posn vs nn o wi tp)) :: (181, mtl ts) :: [(182, ia nw), (187, lng nz), (202, ia nl)])) rfl rfl rfl rfl hlen rfl rfl rfl ((m_isSign (ov_hl hlen) (ov_at rfl (ov_lt hlen (by decide))) k10 (c := 62) (s := sv) (by decide) sv1 sv3).up (by decide)) rfl ?_
          refine bcF_ne rfl (b01_t ((bq 62).trans g)) ?_
          refine RT_step (pc2 := 34) rfl (fun _ _ => rfl) ?_
          refine ow_gf rfl rfl rfl hlen rfl ?_
          refine RT_step (pc2 := 38) rfl (fun _ _ => rfl) ?_
          refine RT_step (pc2 := 39) rfl (fun _ _ => rfl) ?_
          refine ow_iv0 (l2 := ((180, mcl (Int32.ofNat 0) (Int32.ofNat 0) n lim a1 pl1 (km kd1) nm1 sg1 (Int32.ofNat 0) qm1 wd1 td (posn vs nn o wi tp)) :: (181, mtl ts) :: [(182, ia nw), (187, lng nz), (202, ia nl)])) rfl rfl rfl rfl hlen rfl rfl rfl ((m1 _ (ov_hl hlen) (ov_at rfl (ov_lt hlen (by decide))) (ov_at rfl (ov_lt hlen (by decide)))).up (by decide)) rfl ?_
          refine RT_step (pc2 := 43) rfl (fun _ _ => rfl) ?_
          refine rt_ico rfl ki_0 ?_
          refine rt_sip rfl k16_999 ?_
          refine ow_iv1 (l2 := ((180, M) :: (181, mtl ts) :: [(182, ia nw), (187, lng nz), (202, ia nl)])) rfl rfl rfl rfl hlen rfl rfl rfl ((hm _ (ov_hl hlen) (ov_at rfl (ov_lt hlen (by decide))) (ov_at rfl (ov_lt hlen (by decide)))).up (by decide)) rfl ?_
          refine bcT_ne rfl rfl ?_
          refine rt_ico rfl ki_0 ?_
          exact ow_irt rfl rfl rfl
    · obtain ⟨a3, kd3, pl3, w3, le3, nu3, fp3, nm3, sg3, qm3, wd3, rfl, rfl, t3⟩ := c3
      obtain ⟨s2, ws2, sl2, nb2, sx2, hadd⟩ := sx_add115 sx hw0 nu (Int32.ofNat v)
      refine Or.inr ⟨(Int32.ofNat v), (Int32.ofNat v), tcl n lim a3 kd3 pl3 w3 le3 nu3 (Int32.ofNat v) (Int32.ofNat 0) fp3, mcl (Int32.ofNat 0) (Int32.ofNat 0) n lim a3 pl3 (km kd3) nm3 sg3 (Int32.ofNat 0) qm3 wd3 (Int32.ofNat v) (posn vs (nn + 1) o wi nn), s2, ws2, sl2, nb2, ((((nl.set (4 * nn) (Int32.ofNat (50 + j0))).set (4 * nn + 1) (Int32.ofNat 0)).set (4 * nn + 2) (Int32.ofNat v)).set (4 * nn + 3) sg), tf_td t3, sx2, (by simp only [List.length_set]; exact ln), ?_⟩
      rcases sgn3 cc with g | ⟨g1, g⟩ | ⟨g1, g2, g⟩
      · refine ⟨fun H hlen => ?_, fun H hlen => ?_⟩
        · refine FR_st2 (l2 := ((1, tcl n lim a3 kd3 pl3 w3 le3 nu3 (Int32.ofNat v) (Int32.ofNat 0) fp3) :: (2, bcl bs) :: [(3, dcl3 P Dn lw cl id gl bo), (4, lng pn), (5, ia ri), (6, ia lf), (7, ia wa), (8, ia fo), (9, lng dn), (10, ia ha), (11, ia pa), (12, ia bl), (115, .inr (7, [.int (Int32.ofNat o), .int (Int32.ofNat s2), .ref 116, .ref 117, .ref 118, .ref 119])), (116, wrd ws2), (117, ia sl2), (118, ia nb2)])) rfl rfl rfl ?_
          refine RT_step (pc2 := 1) rfl (fun _ _ => rfl) ?_
          refine ow_gf rfl rfl rfl hlen rfl ?_
          refine RT_step (pc2 := 5) rfl (fun _ _ => rfl) ?_
          refine RT_step (pc2 := 6) rfl (fun _ _ => rfl) ?_
          refine rt_bip rfl k8_60 ?_
          refine ow_iv1 (l2 := ((1, tcl n lim a kd pl w le nu tk (Int32.ofNat 0) fp) :: (2, bcl bs) :: [(3, dcl3 P Dn lw cl id gl bo), (4, lng pn), (5, ia ri), (6, ia lf), (7, ia wa), (8, ia fo), (9, lng dn), (10, ia ha), (11, ia pa), (12, ia bl), (115, .inr (7, [.int (Int32.ofNat o), .int (Int32.ofNat s), .ref 116, .ref 117, .ref 118, .ref 119])), (116, wrd ws), (117, ia sgl), (118, ia nbl)])) rfl rfl rfl rfl hlen rfl rfl rfl ((x_isMarkHere (ov_hl hlen) (ov_at rfl (ov_lt hlen (by decide))) hk5 (c := 60) (s := sv) (by decide) sv1 sv2).up (by decide)) rfl ?_
          refine bcF_ne rfl (b01_t g) ?_
          refine RT_step (pc2 := 39) rfl (fun _ _ => rfl) ?_
          refine ow_iv0 (l2 := ((1, tcl n lim a1 kd1 pl1 w1 le1 nu1 tk (Int32.ofNat 0) fp1) :: (2, bcl bs) :: [(3, dcl3 P Dn lw cl id gl bo), (4, lng pn), (5, ia ri), (6, ia lf), (7, ia wa), (8, ia fo), (9, lng dn), (10, ia ha), (11, ia pa), (12, ia bl), (115, .inr (7, [.int (Int32.ofNat o), .int (Int32.ofNat s), .ref 116, .ref 117, .ref 118, .ref 119])), (116, wrd ws), (117, ia sgl), (118, ia nbl)])) rfl rfl rfl rfl hlen rfl rfl rfl ((x1 _ (ov_hl hlen) (ov_at rfl (ov_lt hlen (by decide))) (ov_at rfl (ov_lt hlen (by decide)))).up (by decide)) rfl ?_
          refine RT_step (pc2 := 43) rfl (fun _ _ => rfl) ?_
          refine rt_ico rfl ki_0 ?_
          refine rt_sip rfl k16_999 ?_
          refine ow_iv1 (l2 := ((1, tcl n lim a3 kd3 pl3 w3 le3 nu3 (Int32.ofNat v) (Int32.ofNat 0) fp3) :: (2, bcl bs) :: [(3, dcl3 P Dn lw cl id gl bo), (4, lng pn), (5, ia ri), (6, ia lf), (7, ia wa), (8, ia fo), (9, lng dn), (10, ia ha), (11, ia pa), (12, ia bl), (115, .inr (7, [.int (Int32.ofNat o), .int (Int32.ofNat s), .ref 116, .ref 117, .ref 118, .ref 119])), (116, wrd ws), (117, ia sgl), (118, ia nbl)])) rfl rfl rfl rfl hlen rfl rfl rfl ((hx _ (ov_hl hlen) (ov_at rfl (ov_lt hlen (by decide))) (ov_at rfl (ov_lt hlen (by decide)))).up (by decide)) rfl ?_
          refine bcF_ne rfl (by decide) ?_
          refine RT_step (pc2 := 56) rfl (fun _ _ => rfl) ?_
          refine RT_step (pc2 := 57) rfl (fun _ _ => rfl) ?_
          refine RT_step (pc2 := 58) rfl (fun _ _ => rfl) ?_
          refine RT_step (pc2 := 59) rfl (fun _ _ => rfl) ?_
          refine ow_gf rfl rfl rfl hlen rfl ?_
          refine ow_iv0 (l2 := ((1, tcl n lim a3 kd3 pl3 w3 le3 nu3 (Int32.ofNat v) (Int32.ofNat 0) fp3) :: (2, bcl bs) :: [(3, dcl3 P Dn lw cl id gl bo), (4, lng pn), (5, ia ri), (6, ia lf), (7, ia wa), (8, ia fo), (9, lng dn), (10, ia ha), (11, ia pa), (12, ia bl), (115, .inr (7, [.int (Int32.ofNat o), .int (Int32.ofNat s2), .ref 116, .ref 117, .ref 118, .ref 119])), (116, wrd ws2), (117, ia sl2), (118, ia nb2)])) rfl rfl rfl rfl hlen rfl rfl rfl ((hadd _ _ (ov_hl hlen) (ov_at rfl (ov_lt hlen (by decide))) (ov_at rfl (ov_lt hlen (by decide))) (ov_at rfl (ov_lt hlen (by decide))) (ov_at rfl (ov_lt hlen (by decide)))).up (by decide)) rfl ?_
          refine rt_ico rfl ki_1 ?_
          exact ow_irt rfl rfl rfl
        · refine FR_st2 (l2 := ((180, mcl (Int32.ofNat 0) (Int32.ofNat 0) n lim a3 pl3 (km kd3) nm3 sg3 (Int32.ofNat 0) qm3 wd3 (Int32.ofNat v) (posn vs (nn + 1) o wi nn)) :: (181, mtl ts) :: [(182, ia nw), (187, lng nz), (202, ia ((((nl.set (4 * nn) (Int32.ofNat (50 + j0))).set (4 * nn + 1) (Int32.ofNat 0)).set (4 * nn + 2) (Int32.ofNat v)).set (4 * nn + 3) sg))])) rfl rfl rfl ?_
          refine RT_step (pc2 := 1) rfl (fun _ _ => rfl) ?_
          refine rt_bip rfl k8_60 ?_
          refine ow_iv1 (l2 := ((180, mcl (Int32.ofNat 0) (Int32.ofNat 0) n lim a pl (km kd) nm sg (Int32.ofNat 0) qm wd td (posn vs nn o wi tp)) :: (181, mtl ts) :: [(182, ia nw), (187, lng nz), (202, ia nl)])) rfl rfl rfl rfl hlen rfl rfl rfl ((m_isSign (ov_hl hlen) (ov_at rfl (ov_lt hlen (by decide))) k10 (c := 60) (s := sv) (by decide) sv1 sv3).up (by decide)) rfl ?_
          refine bcF_ne rfl (b01_t ((bq 60).trans g)) ?_
          refine RT_step (pc2 := 34) rfl (fun _ _ => rfl) ?_
          refine ow_gf rfl rfl rfl hlen rfl ?_
          refine RT_step (pc2 := 38) rfl (fun _ _ => rfl) ?_
          refine RT_step (pc2 := 39) rfl (fun _ _ => rfl) ?_
          refine ow_iv0 (l2 := ((180, mcl (Int32.ofNat 0) (Int32.ofNat 0) n lim a1 pl1 (km kd1) nm1 sg1 (Int32.ofNat 0) qm1 wd1 td (posn vs nn o wi tp)) :: (181, mtl ts) :: [(182, ia nw), (187, lng nz), (202, ia nl)])) rfl rfl rfl rfl hlen rfl rfl rfl ((m1 _ (ov_hl hlen) (ov_at rfl (ov_lt hlen (by decide))) (ov_at rfl (ov_lt hlen (by decide)))).up (by decide)) rfl ?_
          refine RT_step (pc2 := 43) rfl (fun _ _ => rfl) ?_
          refine rt_ico rfl ki_0 ?_
          refine rt_sip rfl k16_999 ?_
          refine ow_iv1 (l2 := ((180, mcl (Int32.ofNat 0) (Int32.ofNat 0) n lim a3 pl3 (km kd3) nm3 sg3 (Int32.ofNat 0) qm3 wd3 (Int32.ofNat v) (posn vs nn o wi tp)) :: (181, mtl ts) :: [(182, ia nw), (187, lng nz), (202, ia nl)])) rfl rfl rfl rfl hlen rfl rfl rfl ((hm _ (ov_hl hlen) (ov_at rfl (ov_lt hlen (by decide))) (ov_at rfl (ov_lt hlen (by decide)))).up (by decide)) rfl ?_
          refine bcF_ne rfl (by decide) ?_
          refine RT_step (pc2 := 56) rfl (fun _ _ => rfl) ?_
          refine RT_step (pc2 := 57) rfl (fun _ _ => rfl) ?_
          refine rt_bip rfl k8_50 ?_
          refine RT_step (pc2 := 60) rfl (fun _ _ => rfl) ?_
          refine ba_iadd rfl ?_
          rw [n_add]
          refine rt_ico rfl ki_0 ?_
          refine RT_step (pc2 := 63) rfl (fun _ _ => rfl) ?_
          refine ow_gf rfl rfl rfl hlen rfl ?_
          refine RT_step (pc2 := 67) rfl (fun _ _ => rfl) ?_
          refine ow_iv1 (l2 := ((180, mcl (Int32.ofNat 0) (Int32.ofNat 0) n lim a3 pl3 (km kd3) nm3 sg3 (Int32.ofNat 0) qm3 wd3 (Int32.ofNat v) (posn vs (nn + 1) o wi tp)) :: (181, mtl ts) :: [(182, ia nw), (187, lng nz), (202, ia ((((nl.set (4 * nn) (Int32.ofNat (50 + j0))).set (4 * nn + 1) (Int32.ofNat 0)).set (4 * nn + 2) (Int32.ofNat v)).set (4 * nn + 3) sg))])) rfl rfl rfl rfl hlen rfl rfl rfl ((m_says (ov_hl hlen) (ov_at rfl (ov_lt hlen (by decide))) (ov_at rfl (ov_lt hlen (by decide))) ln hd).up (by decide)) rfl ?_
          refine ow_pf (l2 := ((180, mcl (Int32.ofNat 0) (Int32.ofNat 0) n lim a3 pl3 (km kd3) nm3 sg3 (Int32.ofNat 0) qm3 wd3 (Int32.ofNat v) (posn vs (nn + 1) o wi nn)) :: (181, mtl ts) :: [(182, ia nw), (187, lng nz), (202, ia ((((nl.set (4 * nn) (Int32.ofNat (50 + j0))).set (4 * nn + 1) (Int32.ofNat 0)).set (4 * nn + 2) (Int32.ofNat v)).set (4 * nn + 3) sg))])) rfl rfl rfl rfl rfl hlen rfl rfl ?_
          refine rt_ico rfl ki_1 ?_
          exact ow_irt rfl rfl rfl
      · refine ⟨fun H hlen => ?_, fun H hlen => ?_⟩
        · refine FR_st2 (l2 := ((1, tcl n lim a3 kd3 pl3 w3 le3 nu3 (Int32.ofNat v) (Int32.ofNat 0) fp3) :: (2, bcl bs) :: [(3, dcl3 P Dn lw cl id gl bo), (4, lng pn), (5, ia ri), (6, ia lf), (7, ia wa), (8, ia fo), (9, lng dn), (10, ia ha), (11, ia pa), (12, ia bl), (115, .inr (7, [.int (Int32.ofNat o), .int (Int32.ofNat s2), .ref 116, .ref 117, .ref 118, .ref 119])), (116, wrd ws2), (117, ia sl2), (118, ia nb2)])) rfl rfl rfl ?_
          refine RT_step (pc2 := 1) rfl (fun _ _ => rfl) ?_
          refine ow_gf rfl rfl rfl hlen rfl ?_
          refine RT_step (pc2 := 5) rfl (fun _ _ => rfl) ?_
          refine RT_step (pc2 := 6) rfl (fun _ _ => rfl) ?_
          refine rt_bip rfl k8_60 ?_
          refine ow_iv1 (l2 := ((1, tcl n lim a kd pl w le nu tk (Int32.ofNat 0) fp) :: (2, bcl bs) :: [(3, dcl3 P Dn lw cl id gl bo), (4, lng pn), (5, ia ri), (6, ia lf), (7, ia wa), (8, ia fo), (9, lng dn), (10, ia ha), (11, ia pa), (12, ia bl), (115, .inr (7, [.int (Int32.ofNat o), .int (Int32.ofNat s), .ref 116, .ref 117, .ref 118, .ref 119])), (116, wrd ws), (117, ia sgl), (118, ia nbl)])) rfl rfl rfl rfl hlen rfl rfl rfl ((x_isMarkHere (ov_hl hlen) (ov_at rfl (ov_lt hlen (by decide))) hk5 (c := 60) (s := sv) (by decide) sv1 sv2).up (by decide)) rfl ?_
          refine bcT_ne rfl (b01_f g1) ?_
          refine RT_step (pc2 := 15) rfl (fun _ _ => rfl) ?_
          refine rt_bip rfl k8_61 ?_
          refine ow_iv1 (l2 := ((1, tcl n lim a kd pl w le nu tk (Int32.ofNat 0) fp) :: (2, bcl bs) :: [(3, dcl3 P Dn lw cl id gl bo), (4, lng pn), (5, ia ri), (6, ia lf), (7, ia wa), (8, ia fo), (9, lng dn), (10, ia ha), (11, ia pa), (12, ia bl), (115, .inr (7, [.int (Int32.ofNat o), .int (Int32.ofNat s), .ref 116, .ref 117, .ref 118, .ref 119])), (116, wrd ws), (117, ia sgl), (118, ia nbl)])) rfl rfl rfl rfl hlen rfl rfl rfl ((x_isMarkHere (ov_hl hlen) (ov_at rfl (ov_lt hlen (by decide))) hk5 (c := 61) (s := sv) (by decide) sv1 sv2).up (by decide)) rfl ?_
          refine bcF_ne rfl (b01_t g) ?_
          refine RT_step (pc2 := 39) rfl (fun _ _ => rfl) ?_
          refine ow_iv0 (l2 := ((1, tcl n lim a1 kd1 pl1 w1 le1 nu1 tk (Int32.ofNat 0) fp1) :: (2, bcl bs) :: [(3, dcl3 P Dn lw cl id gl bo), (4, lng pn), (5, ia ri), (6, ia lf), (7, ia wa), (8, ia fo), (9, lng dn), (10, ia ha), (11, ia pa), (12, ia bl), (115, .inr (7, [.int (Int32.ofNat o), .int (Int32.ofNat s), .ref 116, .ref 117, .ref 118, .ref 119])), (116, wrd ws), (117, ia sgl), (118, ia nbl)])) rfl rfl rfl rfl hlen rfl rfl rfl ((x1 _ (ov_hl hlen) (ov_at rfl (ov_lt hlen (by decide))) (ov_at rfl (ov_lt hlen (by decide)))).up (by decide)) rfl ?_
          refine RT_step (pc2 := 43) rfl (fun _ _ => rfl) ?_
          refine rt_ico rfl ki_0 ?_
          refine rt_sip rfl k16_999 ?_
          refine ow_iv1 (l2 := ((1, tcl n lim a3 kd3 pl3 w3 le3 nu3 (Int32.ofNat v) (Int32.ofNat 0) fp3) :: (2, bcl bs) :: [(3, dcl3 P Dn lw cl id gl bo), (4, lng pn), (5, ia ri), (6, ia lf), (7, ia wa), (8, ia fo), (9, lng dn), (10, ia ha), (11, ia pa), (12, ia bl), (115, .inr (7, [.int (Int32.ofNat o), .int (Int32.ofNat s), .ref 116, .ref 117, .ref 118, .ref 119])), (116, wrd ws), (117, ia sgl), (118, ia nbl)])) rfl rfl rfl rfl hlen rfl rfl rfl ((hx _ (ov_hl hlen) (ov_at rfl (ov_lt hlen (by decide))) (ov_at rfl (ov_lt hlen (by decide)))).up (by decide)) rfl ?_
          refine bcF_ne rfl (by decide) ?_
          refine RT_step (pc2 := 56) rfl (fun _ _ => rfl) ?_
          refine RT_step (pc2 := 57) rfl (fun _ _ => rfl) ?_
          refine RT_step (pc2 := 58) rfl (fun _ _ => rfl) ?_
          refine RT_step (pc2 := 59) rfl (fun _ _ => rfl) ?_
          refine ow_gf rfl rfl rfl hlen rfl ?_
          refine ow_iv0 (l2 := ((1, tcl n lim a3 kd3 pl3 w3 le3 nu3 (Int32.ofNat v) (Int32.ofNat 0) fp3) :: (2, bcl bs) :: [(3, dcl3 P Dn lw cl id gl bo), (4, lng pn), (5, ia ri), (6, ia lf), (7, ia wa), (8, ia fo), (9, lng dn), (10, ia ha), (11, ia pa), (12, ia bl), (115, .inr (7, [.int (Int32.ofNat o), .int (Int32.ofNat s2), .ref 116, .ref 117, .ref 118, .ref 119])), (116, wrd ws2), (117, ia sl2), (118, ia nb2)])) rfl rfl rfl rfl hlen rfl rfl rfl ((hadd _ _ (ov_hl hlen) (ov_at rfl (ov_lt hlen (by decide))) (ov_at rfl (ov_lt hlen (by decide))) (ov_at rfl (ov_lt hlen (by decide))) (ov_at rfl (ov_lt hlen (by decide)))).up (by decide)) rfl ?_
          refine rt_ico rfl ki_1 ?_
          exact ow_irt rfl rfl rfl
        · refine FR_st2 (l2 := ((180, mcl (Int32.ofNat 0) (Int32.ofNat 0) n lim a3 pl3 (km kd3) nm3 sg3 (Int32.ofNat 0) qm3 wd3 (Int32.ofNat v) (posn vs (nn + 1) o wi nn)) :: (181, mtl ts) :: [(182, ia nw), (187, lng nz), (202, ia ((((nl.set (4 * nn) (Int32.ofNat (50 + j0))).set (4 * nn + 1) (Int32.ofNat 0)).set (4 * nn + 2) (Int32.ofNat v)).set (4 * nn + 3) sg))])) rfl rfl rfl ?_
          refine RT_step (pc2 := 1) rfl (fun _ _ => rfl) ?_
          refine rt_bip rfl k8_60 ?_
          refine ow_iv1 (l2 := ((180, mcl (Int32.ofNat 0) (Int32.ofNat 0) n lim a pl (km kd) nm sg (Int32.ofNat 0) qm wd td (posn vs nn o wi tp)) :: (181, mtl ts) :: [(182, ia nw), (187, lng nz), (202, ia nl)])) rfl rfl rfl rfl hlen rfl rfl rfl ((m_isSign (ov_hl hlen) (ov_at rfl (ov_lt hlen (by decide))) k10 (c := 60) (s := sv) (by decide) sv1 sv3).up (by decide)) rfl ?_
          refine bcT_ne rfl (b01_f ((bq 60).trans g1)) ?_
          refine RT_step (pc2 := 10) rfl (fun _ _ => rfl) ?_
          refine rt_bip rfl k8_61 ?_
          refine ow_iv1 (l2 := ((180, mcl (Int32.ofNat 0) (Int32.ofNat 0) n lim a pl (km kd) nm sg (Int32.ofNat 0) qm wd td (posn vs nn o wi tp)) :: (181, mtl ts) :: [(182, ia nw), (187, lng nz), (202, ia nl)])) rfl rfl rfl rfl hlen rfl rfl rfl ((m_isSign (ov_hl hlen) (ov_at rfl (ov_lt hlen (by decide))) k10 (c := 61) (s := sv) (by decide) sv1 sv3).up (by decide)) rfl ?_
          refine bcF_ne rfl (b01_t ((bq 61).trans g)) ?_
          refine RT_step (pc2 := 34) rfl (fun _ _ => rfl) ?_
          refine ow_gf rfl rfl rfl hlen rfl ?_
          refine RT_step (pc2 := 38) rfl (fun _ _ => rfl) ?_
          refine RT_step (pc2 := 39) rfl (fun _ _ => rfl) ?_
          refine ow_iv0 (l2 := ((180, mcl (Int32.ofNat 0) (Int32.ofNat 0) n lim a1 pl1 (km kd1) nm1 sg1 (Int32.ofNat 0) qm1 wd1 td (posn vs nn o wi tp)) :: (181, mtl ts) :: [(182, ia nw), (187, lng nz), (202, ia nl)])) rfl rfl rfl rfl hlen rfl rfl rfl ((m1 _ (ov_hl hlen) (ov_at rfl (ov_lt hlen (by decide))) (ov_at rfl (ov_lt hlen (by decide)))).up (by decide)) rfl ?_
          refine RT_step (pc2 := 43) rfl (fun _ _ => rfl) ?_
          refine rt_ico rfl ki_0 ?_
          refine rt_sip rfl k16_999 ?_
          refine ow_iv1 (l2 := ((180, mcl (Int32.ofNat 0) (Int32.ofNat 0) n lim a3 pl3 (km kd3) nm3 sg3 (Int32.ofNat 0) qm3 wd3 (Int32.ofNat v) (posn vs nn o wi tp)) :: (181, mtl ts) :: [(182, ia nw), (187, lng nz), (202, ia nl)])) rfl rfl rfl rfl hlen rfl rfl rfl ((hm _ (ov_hl hlen) (ov_at rfl (ov_lt hlen (by decide))) (ov_at rfl (ov_lt hlen (by decide)))).up (by decide)) rfl ?_
          refine bcF_ne rfl (by decide) ?_
          refine RT_step (pc2 := 56) rfl (fun _ _ => rfl) ?_
          refine RT_step (pc2 := 57) rfl (fun _ _ => rfl) ?_
          refine rt_bip rfl k8_50 ?_
          refine RT_step (pc2 := 60) rfl (fun _ _ => rfl) ?_
          refine ba_iadd rfl ?_
          rw [n_add]
          refine rt_ico rfl ki_0 ?_
          refine RT_step (pc2 := 63) rfl (fun _ _ => rfl) ?_
          refine ow_gf rfl rfl rfl hlen rfl ?_
          refine RT_step (pc2 := 67) rfl (fun _ _ => rfl) ?_
          refine ow_iv1 (l2 := ((180, mcl (Int32.ofNat 0) (Int32.ofNat 0) n lim a3 pl3 (km kd3) nm3 sg3 (Int32.ofNat 0) qm3 wd3 (Int32.ofNat v) (posn vs (nn + 1) o wi tp)) :: (181, mtl ts) :: [(182, ia nw), (187, lng nz), (202, ia ((((nl.set (4 * nn) (Int32.ofNat (50 + j0))).set (4 * nn + 1) (Int32.ofNat 0)).set (4 * nn + 2) (Int32.ofNat v)).set (4 * nn + 3) sg))])) rfl rfl rfl rfl hlen rfl rfl rfl ((m_says (ov_hl hlen) (ov_at rfl (ov_lt hlen (by decide))) (ov_at rfl (ov_lt hlen (by decide))) ln hd).up (by decide)) rfl ?_
          refine ow_pf (l2 := ((180, mcl (Int32.ofNat 0) (Int32.ofNat 0) n lim a3 pl3 (km kd3) nm3 sg3 (Int32.ofNat 0) qm3 wd3 (Int32.ofNat v) (posn vs (nn + 1) o wi nn)) :: (181, mtl ts) :: [(182, ia nw), (187, lng nz), (202, ia ((((nl.set (4 * nn) (Int32.ofNat (50 + j0))).set (4 * nn + 1) (Int32.ofNat 0)).set (4 * nn + 2) (Int32.ofNat v)).set (4 * nn + 3) sg))])) rfl rfl rfl rfl rfl hlen rfl rfl ?_
          refine rt_ico rfl ki_1 ?_
          exact ow_irt rfl rfl rfl
      · refine ⟨fun H hlen => ?_, fun H hlen => ?_⟩
        · refine FR_st2 (l2 := ((1, tcl n lim a3 kd3 pl3 w3 le3 nu3 (Int32.ofNat v) (Int32.ofNat 0) fp3) :: (2, bcl bs) :: [(3, dcl3 P Dn lw cl id gl bo), (4, lng pn), (5, ia ri), (6, ia lf), (7, ia wa), (8, ia fo), (9, lng dn), (10, ia ha), (11, ia pa), (12, ia bl), (115, .inr (7, [.int (Int32.ofNat o), .int (Int32.ofNat s2), .ref 116, .ref 117, .ref 118, .ref 119])), (116, wrd ws2), (117, ia sl2), (118, ia nb2)])) rfl rfl rfl ?_
          refine RT_step (pc2 := 1) rfl (fun _ _ => rfl) ?_
          refine ow_gf rfl rfl rfl hlen rfl ?_
          refine RT_step (pc2 := 5) rfl (fun _ _ => rfl) ?_
          refine RT_step (pc2 := 6) rfl (fun _ _ => rfl) ?_
          refine rt_bip rfl k8_60 ?_
          refine ow_iv1 (l2 := ((1, tcl n lim a kd pl w le nu tk (Int32.ofNat 0) fp) :: (2, bcl bs) :: [(3, dcl3 P Dn lw cl id gl bo), (4, lng pn), (5, ia ri), (6, ia lf), (7, ia wa), (8, ia fo), (9, lng dn), (10, ia ha), (11, ia pa), (12, ia bl), (115, .inr (7, [.int (Int32.ofNat o), .int (Int32.ofNat s), .ref 116, .ref 117, .ref 118, .ref 119])), (116, wrd ws), (117, ia sgl), (118, ia nbl)])) rfl rfl rfl rfl hlen rfl rfl rfl ((x_isMarkHere (ov_hl hlen) (ov_at rfl (ov_lt hlen (by decide))) hk5 (c := 60) (s := sv) (by decide) sv1 sv2).up (by decide)) rfl ?_
          refine bcT_ne rfl (b01_f g1) ?_
          refine RT_step (pc2 := 15) rfl (fun _ _ => rfl) ?_
          refine rt_bip rfl k8_61 ?_
          refine ow_iv1 (l2 := ((1, tcl n lim a kd pl w le nu tk (Int32.ofNat 0) fp) :: (2, bcl bs) :: [(3, dcl3 P Dn lw cl id gl bo), (4, lng pn), (5, ia ri), (6, ia lf), (7, ia wa), (8, ia fo), (9, lng dn), (10, ia ha), (11, ia pa), (12, ia bl), (115, .inr (7, [.int (Int32.ofNat o), .int (Int32.ofNat s), .ref 116, .ref 117, .ref 118, .ref 119])), (116, wrd ws), (117, ia sgl), (118, ia nbl)])) rfl rfl rfl rfl hlen rfl rfl rfl ((x_isMarkHere (ov_hl hlen) (ov_at rfl (ov_lt hlen (by decide))) hk5 (c := 61) (s := sv) (by decide) sv1 sv2).up (by decide)) rfl ?_
          refine bcT_ne rfl (b01_f g2) ?_
          refine RT_step (pc2 := 24) rfl (fun _ _ => rfl) ?_
          refine rt_bip rfl k8_62 ?_
          refine ow_iv1 (l2 := ((1, tcl n lim a kd pl w le nu tk (Int32.ofNat 0) fp) :: (2, bcl bs) :: [(3, dcl3 P Dn lw cl id gl bo), (4, lng pn), (5, ia ri), (6, ia lf), (7, ia wa), (8, ia fo), (9, lng dn), (10, ia ha), (11, ia pa), (12, ia bl), (115, .inr (7, [.int (Int32.ofNat o), .int (Int32.ofNat s), .ref 116, .ref 117, .ref 118, .ref 119])), (116, wrd ws), (117, ia sgl), (118, ia nbl)])) rfl rfl rfl rfl hlen rfl rfl rfl ((x_isMarkHere (ov_hl hlen) (ov_at rfl (ov_lt hlen (by decide))) hk5 (c := 62) (s := sv) (by decide) sv1 sv2).up (by decide)) rfl ?_
          refine bcF_ne rfl (b01_t g) ?_
          refine RT_step (pc2 := 39) rfl (fun _ _ => rfl) ?_
          refine ow_iv0 (l2 := ((1, tcl n lim a1 kd1 pl1 w1 le1 nu1 tk (Int32.ofNat 0) fp1) :: (2, bcl bs) :: [(3, dcl3 P Dn lw cl id gl bo), (4, lng pn), (5, ia ri), (6, ia lf), (7, ia wa), (8, ia fo), (9, lng dn), (10, ia ha), (11, ia pa), (12, ia bl), (115, .inr (7, [.int (Int32.ofNat o), .int (Int32.ofNat s), .ref 116, .ref 117, .ref 118, .ref 119])), (116, wrd ws), (117, ia sgl), (118, ia nbl)])) rfl rfl rfl rfl hlen rfl rfl rfl ((x1 _ (ov_hl hlen) (ov_at rfl (ov_lt hlen (by decide))) (ov_at rfl (ov_lt hlen (by decide)))).up (by decide)) rfl ?_
          refine RT_step (pc2 := 43) rfl (fun _ _ => rfl) ?_
          refine rt_ico rfl ki_0 ?_
          refine rt_sip rfl k16_999 ?_
          refine ow_iv1 (l2 := ((1, tcl n lim a3 kd3 pl3 w3 le3 nu3 (Int32.ofNat v) (Int32.ofNat 0) fp3) :: (2, bcl bs) :: [(3, dcl3 P Dn lw cl id gl bo), (4, lng pn), (5, ia ri), (6, ia lf), (7, ia wa), (8, ia fo), (9, lng dn), (10, ia ha), (11, ia pa), (12, ia bl), (115, .inr (7, [.int (Int32.ofNat o), .int (Int32.ofNat s), .ref 116, .ref 117, .ref 118, .ref 119])), (116, wrd ws), (117, ia sgl), (118, ia nbl)])) rfl rfl rfl rfl hlen rfl rfl rfl ((hx _ (ov_hl hlen) (ov_at rfl (ov_lt hlen (by decide))) (ov_at rfl (ov_lt hlen (by decide)))).up (by decide)) rfl ?_
          refine bcF_ne rfl (by decide) ?_
          refine RT_step (pc2 := 56) rfl (fun _ _ => rfl) ?_
          refine RT_step (pc2 := 57) rfl (fun _ _ => rfl) ?_
          refine RT_step (pc2 := 58) rfl (fun _ _ => rfl) ?_
          refine RT_step (pc2 := 59) rfl (fun _ _ => rfl) ?_
          refine ow_gf rfl rfl rfl hlen rfl ?_
          refine ow_iv0 (l2 := ((1, tcl n lim a3 kd3 pl3 w3 le3 nu3 (Int32.ofNat v) (Int32.ofNat 0) fp3) :: (2, bcl bs) :: [(3, dcl3 P Dn lw cl id gl bo), (4, lng pn), (5, ia ri), (6, ia lf), (7, ia wa), (8, ia fo), (9, lng dn), (10, ia ha), (11, ia pa), (12, ia bl), (115, .inr (7, [.int (Int32.ofNat o), .int (Int32.ofNat s2), .ref 116, .ref 117, .ref 118, .ref 119])), (116, wrd ws2), (117, ia sl2), (118, ia nb2)])) rfl rfl rfl rfl hlen rfl rfl rfl ((hadd _ _ (ov_hl hlen) (ov_at rfl (ov_lt hlen (by decide))) (ov_at rfl (ov_lt hlen (by decide))) (ov_at rfl (ov_lt hlen (by decide))) (ov_at rfl (ov_lt hlen (by decide)))).up (by decide)) rfl ?_
          refine rt_ico rfl ki_1 ?_
          exact ow_irt rfl rfl rfl
        · refine FR_st2 (l2 := ((180, mcl (Int32.ofNat 0) (Int32.ofNat 0) n lim a3 pl3 (km kd3) nm3 sg3 (Int32.ofNat 0) qm3 wd3 (Int32.ofNat v) (posn vs (nn + 1) o wi nn)) :: (181, mtl ts) :: [(182, ia nw), (187, lng nz), (202, ia ((((nl.set (4 * nn) (Int32.ofNat (50 + j0))).set (4 * nn + 1) (Int32.ofNat 0)).set (4 * nn + 2) (Int32.ofNat v)).set (4 * nn + 3) sg))])) rfl rfl rfl ?_
          refine RT_step (pc2 := 1) rfl (fun _ _ => rfl) ?_
          refine rt_bip rfl k8_60 ?_
          refine ow_iv1 (l2 := ((180, mcl (Int32.ofNat 0) (Int32.ofNat 0) n lim a pl (km kd) nm sg (Int32.ofNat 0) qm wd td (posn vs nn o wi tp)) :: (181, mtl ts) :: [(182, ia nw), (187, lng nz), (202, ia nl)])) rfl rfl rfl rfl hlen rfl rfl rfl ((m_isSign (ov_hl hlen) (ov_at rfl (ov_lt hlen (by decide))) k10 (c := 60) (s := sv) (by decide) sv1 sv3).up (by decide)) rfl ?_
          refine bcT_ne rfl (b01_f ((bq 60).trans g1)) ?_
          refine RT_step (pc2 := 10) rfl (fun _ _ => rfl) ?_
          refine rt_bip rfl k8_61 ?_
          refine ow_iv1 (l2 := ((180, mcl (Int32.ofNat 0) (Int32.ofNat 0) n lim a pl (km kd) nm sg (Int32.ofNat 0) qm wd td (posn vs nn o wi tp)) :: (181, mtl ts) :: [(182, ia nw), (187, lng nz), (202, ia nl)])) rfl rfl rfl rfl hlen rfl rfl rfl ((m_isSign (ov_hl hlen) (ov_at rfl (ov_lt hlen (by decide))) k10 (c := 61) (s := sv) (by decide) sv1 sv3).up (by decide)) rfl ?_
          refine bcT_ne rfl (b01_f ((bq 61).trans g2)) ?_
          refine RT_step (pc2 := 19) rfl (fun _ _ => rfl) ?_
          refine rt_bip rfl k8_62 ?_
          refine ow_iv1 (l2 := ((180, mcl (Int32.ofNat 0) (Int32.ofNat 0) n lim a pl (km kd) nm sg (Int32.ofNat 0) qm wd td (posn vs nn o wi tp)) :: (181, mtl ts) :: [(182, ia nw), (187, lng nz), (202, ia nl)])) rfl rfl rfl rfl hlen rfl rfl rfl ((m_isSign (ov_hl hlen) (ov_at rfl (ov_lt hlen (by decide))) k10 (c := 62) (s := sv) (by decide) sv1 sv3).up (by decide)) rfl ?_
          refine bcF_ne rfl (b01_t ((bq 62).trans g)) ?_
          refine RT_step (pc2 := 34) rfl (fun _ _ => rfl) ?_
          refine ow_gf rfl rfl rfl hlen rfl ?_
          refine RT_step (pc2 := 38) rfl (fun _ _ => rfl) ?_
          refine RT_step (pc2 := 39) rfl (fun _ _ => rfl) ?_
          refine ow_iv0 (l2 := ((180, mcl (Int32.ofNat 0) (Int32.ofNat 0) n lim a1 pl1 (km kd1) nm1 sg1 (Int32.ofNat 0) qm1 wd1 td (posn vs nn o wi tp)) :: (181, mtl ts) :: [(182, ia nw), (187, lng nz), (202, ia nl)])) rfl rfl rfl rfl hlen rfl rfl rfl ((m1 _ (ov_hl hlen) (ov_at rfl (ov_lt hlen (by decide))) (ov_at rfl (ov_lt hlen (by decide)))).up (by decide)) rfl ?_
          refine RT_step (pc2 := 43) rfl (fun _ _ => rfl) ?_
          refine rt_ico rfl ki_0 ?_
          refine rt_sip rfl k16_999 ?_
          refine ow_iv1 (l2 := ((180, mcl (Int32.ofNat 0) (Int32.ofNat 0) n lim a3 pl3 (km kd3) nm3 sg3 (Int32.ofNat 0) qm3 wd3 (Int32.ofNat v) (posn vs nn o wi tp)) :: (181, mtl ts) :: [(182, ia nw), (187, lng nz), (202, ia nl)])) rfl rfl rfl rfl hlen rfl rfl rfl ((hm _ (ov_hl hlen) (ov_at rfl (ov_lt hlen (by decide))) (ov_at rfl (ov_lt hlen (by decide)))).up (by decide)) rfl ?_
          refine bcF_ne rfl (by decide) ?_
          refine RT_step (pc2 := 56) rfl (fun _ _ => rfl) ?_
          refine RT_step (pc2 := 57) rfl (fun _ _ => rfl) ?_
          refine rt_bip rfl k8_50 ?_
          refine RT_step (pc2 := 60) rfl (fun _ _ => rfl) ?_
          refine ba_iadd rfl ?_
          rw [n_add]
          refine rt_ico rfl ki_0 ?_
          refine RT_step (pc2 := 63) rfl (fun _ _ => rfl) ?_
          refine ow_gf rfl rfl rfl hlen rfl ?_
          refine RT_step (pc2 := 67) rfl (fun _ _ => rfl) ?_
          refine ow_iv1 (l2 := ((180, mcl (Int32.ofNat 0) (Int32.ofNat 0) n lim a3 pl3 (km kd3) nm3 sg3 (Int32.ofNat 0) qm3 wd3 (Int32.ofNat v) (posn vs (nn + 1) o wi tp)) :: (181, mtl ts) :: [(182, ia nw), (187, lng nz), (202, ia ((((nl.set (4 * nn) (Int32.ofNat (50 + j0))).set (4 * nn + 1) (Int32.ofNat 0)).set (4 * nn + 2) (Int32.ofNat v)).set (4 * nn + 3) sg))])) rfl rfl rfl rfl hlen rfl rfl rfl ((m_says (ov_hl hlen) (ov_at rfl (ov_lt hlen (by decide))) (ov_at rfl (ov_lt hlen (by decide))) ln hd).up (by decide)) rfl ?_
          refine ow_pf (l2 := ((180, mcl (Int32.ofNat 0) (Int32.ofNat 0) n lim a3 pl3 (km kd3) nm3 sg3 (Int32.ofNat 0) qm3 wd3 (Int32.ofNat v) (posn vs (nn + 1) o wi nn)) :: (181, mtl ts) :: [(182, ia nw), (187, lng nz), (202, ia ((((nl.set (4 * nn) (Int32.ofNat (50 + j0))).set (4 * nn + 1) (Int32.ofNat 0)).set (4 * nn + 2) (Int32.ofNat v)).set (4 * nn + 3) sg))])) rfl rfl rfl rfl rfl hlen rfl rfl ?_
          refine rt_ico rfl ki_1 ?_
          exact ow_irt rfl rfl rfl
  · have g1 : (Nat.beq kd 3 && Nat.beq sv 60) = false := Bool.eq_false_iff.mpr (fun e => cc (Or.inl e))
    have g2 : (Nat.beq kd 3 && Nat.beq sv 61) = false := Bool.eq_false_iff.mpr (fun e => cc (Or.inr (Or.inl e)))
    have g3 : (Nat.beq kd 3 && Nat.beq sv 62) = false := Bool.eq_false_iff.mpr (fun e => cc (Or.inr (Or.inr e)))
    obtain ⟨T, M, f, hx, hm⟩ := s_ref (bs := bs) (ts := ts) (lim := lim) (po := (posn vs nn o wi tp)) (pl := pl) (tk := tk) (td := td) (fp := fp) (plM := qm) t (kk := 1) (by decide) (by decide) (Or.inr rfl)
    refine Or.inl ⟨T, M, f, fun H hlen => ?_, fun H hlen => ?_⟩
    · refine FR_st2 (l2 := ((1, T) :: (2, bcl bs) :: [(3, dcl3 P Dn lw cl id gl bo), (4, lng pn), (5, ia ri), (6, ia lf), (7, ia wa), (8, ia fo), (9, lng dn), (10, ia ha), (11, ia pa), (12, ia bl), (115, .inr (7, [.int (Int32.ofNat o), .int (Int32.ofNat s), .ref 116, .ref 117, .ref 118, .ref 119])), (116, wrd ws), (117, ia sgl), (118, ia nbl)])) rfl rfl rfl ?_
      refine RT_step (pc2 := 1) rfl (fun _ _ => rfl) ?_
      refine ow_gf rfl rfl rfl hlen rfl ?_
      refine RT_step (pc2 := 5) rfl (fun _ _ => rfl) ?_
      refine RT_step (pc2 := 6) rfl (fun _ _ => rfl) ?_
      refine rt_bip rfl k8_60 ?_
      refine ow_iv1 (l2 := ((1, tcl n lim a kd pl w le nu tk (Int32.ofNat 0) fp) :: (2, bcl bs) :: [(3, dcl3 P Dn lw cl id gl bo), (4, lng pn), (5, ia ri), (6, ia lf), (7, ia wa), (8, ia fo), (9, lng dn), (10, ia ha), (11, ia pa), (12, ia bl), (115, .inr (7, [.int (Int32.ofNat o), .int (Int32.ofNat s), .ref 116, .ref 117, .ref 118, .ref 119])), (116, wrd ws), (117, ia sgl), (118, ia nbl)])) rfl rfl rfl rfl hlen rfl rfl rfl ((x_isMarkHere (ov_hl hlen) (ov_at rfl (ov_lt hlen (by decide))) hk5 (c := 60) (s := sv) (by decide) sv1 sv2).up (by decide)) rfl ?_
      refine bcT_ne rfl (b01_f g1) ?_
      refine RT_step (pc2 := 15) rfl (fun _ _ => rfl) ?_
      refine rt_bip rfl k8_61 ?_
      refine ow_iv1 (l2 := ((1, tcl n lim a kd pl w le nu tk (Int32.ofNat 0) fp) :: (2, bcl bs) :: [(3, dcl3 P Dn lw cl id gl bo), (4, lng pn), (5, ia ri), (6, ia lf), (7, ia wa), (8, ia fo), (9, lng dn), (10, ia ha), (11, ia pa), (12, ia bl), (115, .inr (7, [.int (Int32.ofNat o), .int (Int32.ofNat s), .ref 116, .ref 117, .ref 118, .ref 119])), (116, wrd ws), (117, ia sgl), (118, ia nbl)])) rfl rfl rfl rfl hlen rfl rfl rfl ((x_isMarkHere (ov_hl hlen) (ov_at rfl (ov_lt hlen (by decide))) hk5 (c := 61) (s := sv) (by decide) sv1 sv2).up (by decide)) rfl ?_
      refine bcT_ne rfl (b01_f g2) ?_
      refine RT_step (pc2 := 24) rfl (fun _ _ => rfl) ?_
      refine rt_bip rfl k8_62 ?_
      refine ow_iv1 (l2 := ((1, tcl n lim a kd pl w le nu tk (Int32.ofNat 0) fp) :: (2, bcl bs) :: [(3, dcl3 P Dn lw cl id gl bo), (4, lng pn), (5, ia ri), (6, ia lf), (7, ia wa), (8, ia fo), (9, lng dn), (10, ia ha), (11, ia pa), (12, ia bl), (115, .inr (7, [.int (Int32.ofNat o), .int (Int32.ofNat s), .ref 116, .ref 117, .ref 118, .ref 119])), (116, wrd ws), (117, ia sgl), (118, ia nbl)])) rfl rfl rfl rfl hlen rfl rfl rfl ((x_isMarkHere (ov_hl hlen) (ov_at rfl (ov_lt hlen (by decide))) hk5 (c := 62) (s := sv) (by decide) sv1 sv2).up (by decide)) rfl ?_
      refine bcT_ne rfl (b01_f g3) ?_
      refine RT_step (pc2 := 33) rfl (fun _ _ => rfl) ?_
      refine rt_ico rfl ki_1 ?_
      refine ow_iv1 (l2 := ((1, T) :: (2, bcl bs) :: [(3, dcl3 P Dn lw cl id gl bo), (4, lng pn), (5, ia ri), (6, ia lf), (7, ia wa), (8, ia fo), (9, lng dn), (10, ia ha), (11, ia pa), (12, ia bl), (115, .inr (7, [.int (Int32.ofNat o), .int (Int32.ofNat s), .ref 116, .ref 117, .ref 118, .ref 119])), (116, wrd ws), (117, ia sgl), (118, ia nbl)])) rfl rfl rfl rfl hlen rfl rfl rfl ((hx _ (ov_hl hlen) (ov_at rfl (ov_lt hlen (by decide))) (ov_at rfl (ov_lt hlen (by decide)))).up (by decide)) rfl ?_
      exact ow_irt rfl rfl rfl
    · refine FR_st2 (l2 := ((180, M) :: (181, mtl ts) :: [(182, ia nw), (187, lng nz), (202, ia nl)])) rfl rfl rfl ?_
      refine RT_step (pc2 := 1) rfl (fun _ _ => rfl) ?_
      refine rt_bip rfl k8_60 ?_
      refine ow_iv1 (l2 := ((180, mcl (Int32.ofNat 0) (Int32.ofNat 0) n lim a pl (km kd) nm sg (Int32.ofNat 0) qm wd td (posn vs nn o wi tp)) :: (181, mtl ts) :: [(182, ia nw), (187, lng nz), (202, ia nl)])) rfl rfl rfl rfl hlen rfl rfl rfl ((m_isSign (ov_hl hlen) (ov_at rfl (ov_lt hlen (by decide))) k10 (c := 60) (s := sv) (by decide) sv1 sv3).up (by decide)) rfl ?_
      refine bcT_ne rfl (b01_f ((bq 60).trans g1)) ?_
      refine RT_step (pc2 := 10) rfl (fun _ _ => rfl) ?_
      refine rt_bip rfl k8_61 ?_
      refine ow_iv1 (l2 := ((180, mcl (Int32.ofNat 0) (Int32.ofNat 0) n lim a pl (km kd) nm sg (Int32.ofNat 0) qm wd td (posn vs nn o wi tp)) :: (181, mtl ts) :: [(182, ia nw), (187, lng nz), (202, ia nl)])) rfl rfl rfl rfl hlen rfl rfl rfl ((m_isSign (ov_hl hlen) (ov_at rfl (ov_lt hlen (by decide))) k10 (c := 61) (s := sv) (by decide) sv1 sv3).up (by decide)) rfl ?_
      refine bcT_ne rfl (b01_f ((bq 61).trans g2)) ?_
      refine RT_step (pc2 := 19) rfl (fun _ _ => rfl) ?_
      refine rt_bip rfl k8_62 ?_
      refine ow_iv1 (l2 := ((180, mcl (Int32.ofNat 0) (Int32.ofNat 0) n lim a pl (km kd) nm sg (Int32.ofNat 0) qm wd td (posn vs nn o wi tp)) :: (181, mtl ts) :: [(182, ia nw), (187, lng nz), (202, ia nl)])) rfl rfl rfl rfl hlen rfl rfl rfl ((m_isSign (ov_hl hlen) (ov_at rfl (ov_lt hlen (by decide))) k10 (c := 62) (s := sv) (by decide) sv1 sv3).up (by decide)) rfl ?_
      refine bcT_ne rfl (b01_f ((bq 62).trans g3)) ?_
      refine RT_step (pc2 := 28) rfl (fun _ _ => rfl) ?_
      refine rt_ico rfl ki_1 ?_
      refine ow_iv1 (l2 := ((180, M) :: (181, mtl ts) :: [(182, ia nw), (187, lng nz), (202, ia nl)])) rfl rfl rfl rfl hlen rfl rfl rfl ((hm _ (ov_hl hlen) (ov_at rfl (ov_lt hlen (by decide))) (ov_at rfl (ov_lt hlen (by decide)))).up (by decide)) rfl ?_
      exact ow_irt rfl rfl rfl
theorem st13_110 {B : Nat → Nat} {bs ts : List Int32} {vs : Nat → Value} {n lim : Nat} {k a kd pl w : Nat} {le : Int64} {nu tk td fp nm sg qm : Int32} {wd : Int64} {o s nn wi tp : Nat} {ws : List (Option Nat)} {sgl nbl nl nw : List Int32} {nz : List Int64} {P : Nat} {Dn : Nat} {lw : Int32} {cl : Int32} {id : Int32} {gl : Nat} {bo : Nat} {pn : List Int64} {ri : List Int32} {lf : List Int32} {wa : List Int32} {fo : List Int32} {dn : List Int64} {ha : List Int32} {pa : List Int32} {bl : List Int32} (hB : BY bs B) (hM : MY ts B) (hb : ∀ i, B i < 256) (hn : n ≤ 940) (hl : lim ≤ 940) (t : TF k n a kd w le nu nm sg wd) (hP : P ≤ 7) (lp : pn.length = 7) (lz : nz.length = 15) (hv : nw[0]? = some (Int32.ofNat P)) (hN : ∀ i, i < P → ∃ ss, nok ss ∧ pn[i]? = some (p5 ss) ∧ nz[0 + i]? = some (p27 ss)) (sx : SX s ws sgl nbl) (ln : nl.length = 240) (hd : nn < 60) (ho : o ≤ 20) (hw8 : wi ≤ 8) : (∃ T M, FC n lim (posn vs nn o wi tp) T M ∧ LSn 4 146 [.ref 110, .ref 1, .ref 13] 5 261 [.ref 180, .int (Int32.ofNat 25)] ((1, tcl n lim a kd pl w le nu tk (Int32.ofNat 0) fp) :: (2, bcl bs) :: [(13, dcl13 P Dn lw cl id gl bo), (14, lng pn), (15, ia ri), (16, ia lf), (17, ia wa), (18, ia fo), (19, lng dn), (20, ia ha), (21, ia pa), (22, ia bl), (110, .inr (7, [.int (Int32.ofNat o), .int (Int32.ofNat s), .ref 111, .ref 112, .ref 113, .ref 114])), (111, wrd ws), (112, ia sgl), (113, ia nbl)]) ((180, mcl (Int32.ofNat 0) (Int32.ofNat 0) n lim a pl (km kd) nm sg (Int32.ofNat 0) qm wd td (posn vs nn o wi tp)) :: (181, mtl ts) :: [(182, ia nw), (187, lng nz), (202, ia nl)]) (.int (Int32.ofNat 0)) (.int (Int32.ofNat 0)) [(1, T), (110, .inr (7, [.int (Int32.ofNat o), .int (Int32.ofNat s), .ref 111, .ref 112, .ref 113, .ref 114])), (111, wrd ws), (112, ia sgl), (113, ia nbl)] [(180, M), (202, ia nl)]) ∨ (∃ (tk2 td2 : Int32) (T M : AE) (s2 : Nat) (ws2 : List (Option Nat)) (sl2 nb2 nl2 : List Int32), TC n lim (posn vs (nn + 1) o wi nn) (k + 1) tk2 td2 T M ∧ SX s2 ws2 sl2 nb2 ∧ nl2.length = 240 ∧ LSn 4 146 [.ref 110, .ref 1, .ref 13] 5 261 [.ref 180, .int (Int32.ofNat 25)] ((1, tcl n lim a kd pl w le nu tk (Int32.ofNat 0) fp) :: (2, bcl bs) :: [(13, dcl13 P Dn lw cl id gl bo), (14, lng pn), (15, ia ri), (16, ia lf), (17, ia wa), (18, ia fo), (19, lng dn), (20, ia ha), (21, ia pa), (22, ia bl), (110, .inr (7, [.int (Int32.ofNat o), .int (Int32.ofNat s), .ref 111, .ref 112, .ref 113, .ref 114])), (111, wrd ws), (112, ia sgl), (113, ia nbl)]) ((180, mcl (Int32.ofNat 0) (Int32.ofNat 0) n lim a pl (km kd) nm sg (Int32.ofNat 0) qm wd td (posn vs nn o wi tp)) :: (181, mtl ts) :: [(182, ia nw), (187, lng nz), (202, ia nl)]) (.int (Int32.ofNat 1)) (.int (Int32.ofNat 1)) [(1, T), (110, .inr (7, [.int (Int32.ofNat o), .int (Int32.ofNat s2), .ref 111, .ref 112, .ref 113, .ref 114])), (111, wrd ws2), (112, ia sl2), (113, ia nb2)] [(180, M), (202, ia nl2)]) := by
  have hk := (km_is kd t.2.2.2.1).2.2.2.2.2
  have hw := t.2.2.2.2.1
  by_cases c : w = 1
  · have hk1 := w_k1 t (by omega)
    obtain ⟨rs, r1, r2, r3, r4, r5, r6⟩ := t.2.2.2.2.2.1 hk1
    have hr : nok rs := ⟨r1, r2, r3⟩
    have hnm : (Nat.beq (km kd) 2 && nmB wd 30 0) = true := by rw [w_nm t, c]; rfl
    have q1 := nm_eq hr hN
    rw [← r4, ← r5] at q1
    cases e1 : fd pn le 0 P 0 with
    | some j =>
      have hj := (fd_lt e1).2
      have e2 := q1.symm.trans e1
      obtain ⟨T1, M1, c1, x1, m1⟩ := s_adv hB hM hb hn hl (po := (posn vs nn o wi tp)) (pl := pl) (tk := tk) (td := (Int32.ofNat j)) (fp := fp) (plM := qm) t (by omega) (by omega)
      obtain ⟨a1, kd1, pl1, w1, le1, nu1, fp1, nm1, sg1, qm1, wd1, rfl, rfl, t1⟩ := c1
      obtain ⟨s2, ws2, sl2, nb2, sx2, hadd⟩ := sx_add110 sx (w := 27) (by decide) (Int32.ofNat 61) (Int32.ofNat j)
      refine Or.inr ⟨tk, (Int32.ofNat j), tcl n lim a1 kd1 pl1 w1 le1 nu1 tk (Int32.ofNat 0) fp1, mcl (Int32.ofNat 0) (Int32.ofNat 0) n lim a1 pl1 (km kd1) nm1 sg1 (Int32.ofNat 0) qm1 wd1 (Int32.ofNat j) (posn vs (nn + 1) o wi nn), s2, ws2, sl2, nb2, ((((nl.set (4 * nn) (Int32.ofNat 75)).set (4 * nn + 1) (Int32.ofNat j)).set (4 * nn + 2) (Int32.ofNat 0)).set (4 * nn + 3) (Int32.ofNat 0)), tf_td t1, sx2, (by simp only [List.length_set]; exact ln), fun H hlen => ?_, fun H hlen => ?_⟩
      · have hz : FR 2 71 [.ref 1, .ref 14, .int (Int32.ofNat P)] (ov H ((1, tcl n lim a kd pl w le nu tk (Int32.ofNat 0) fp) :: (2, bcl bs) :: [(13, dcl13 P Dn lw cl id gl bo), (14, lng pn), (15, ia ri), (16, ia lf), (17, ia wa), (18, ia fo), (19, lng dn), (20, ia ha), (21, ia pa), (22, ia bl), (110, .inr (7, [.int (Int32.ofNat o), .int (Int32.ofNat s), .ref 111, .ref 112, .ref 113, .ref 114])), (111, wrd ws), (112, ia sgl), (113, ia nbl)])) (some (.int (Int32.ofNat j)), ov (ov H ((1, tcl n lim a kd pl w le nu tk (Int32.ofNat 0) fp) :: (2, bcl bs) :: [(13, dcl13 P Dn lw cl id gl bo), (14, lng pn), (15, ia ri), (16, ia lf), (17, ia wa), (18, ia fo), (19, lng dn), (20, ia ha), (21, ia pa), (22, ia bl), (110, .inr (7, [.int (Int32.ofNat o), .int (Int32.ofNat s), .ref 111, .ref 112, .ref 113, .ref 114])), (111, wrd ws), (112, ia sgl), (113, ia nbl)])) [(1, tcl n lim a kd pl w le nu tk (Int32.ofNat 0) fp)]) := by
          refine FR_st2 (l2 := ((1, tcl n lim a kd pl w le nu tk (Int32.ofNat 0) fp) :: (2, bcl bs) :: [(13, dcl13 P Dn lw cl id gl bo), (14, lng pn), (15, ia ri), (16, ia lf), (17, ia wa), (18, ia fo), (19, lng dn), (20, ia ha), (21, ia pa), (22, ia bl), (110, .inr (7, [.int (Int32.ofNat o), .int (Int32.ofNat s), .ref 111, .ref 112, .ref 113, .ref 114])), (111, wrd ws), (112, ia sgl), (113, ia nbl)])) rfl rfl rfl ?_
          refine RT_step (pc2 := 1) rfl (fun _ _ => rfl) ?_
          refine ow_gf rfl rfl rfl hlen rfl ?_
          refine RT_step (pc2 := 7) rfl (fun _ _ => rfl) ?_
          refine rt_acE rfl (by omega) (by omega) ?_
          refine RT_if c ?_
          refine RT_step (pc2 := 19) rfl (fun _ _ => rfl) ?_
          refine RT_step (pc2 := 20) rfl (fun _ _ => rfl) ?_
          refine RT_step (pc2 := 21) rfl (fun _ _ => rfl) ?_
          refine ow_gf rfl rfl rfl hlen rfl ?_
          refine ow_is1 rfl rfl rfl rfl rfl ((x_find14 (ov_hl hlen) (ov_at rfl (ov_lt hlen (by decide))) (by omega) (by omega)).up (by decide)) rfl ?_
          rw [show fdI (fd pn le 0 P 0) = Int32.ofNat j from by rw [e1]; rfl]
          refine RT_step (pc2 := 28) rfl (fun _ _ => rfl) ?_
          refine RT_step (pc2 := 29) rfl (fun _ _ => rfl) ?_
          refine rt_ico rfl ki_m1 ?_
          refine biF_ne rfl (n_m1 (by omega)) ?_
          refine RT_step (pc2 := 40) rfl (fun _ _ => rfl) ?_
          exact ow_irt rfl rfl rfl
        have hy : FR 3 73 [.ref 13, .ref 1] (ov H ((1, tcl n lim a kd pl w le nu tk (Int32.ofNat 0) fp) :: (2, bcl bs) :: [(13, dcl13 P Dn lw cl id gl bo), (14, lng pn), (15, ia ri), (16, ia lf), (17, ia wa), (18, ia fo), (19, lng dn), (20, ia ha), (21, ia pa), (22, ia bl), (110, .inr (7, [.int (Int32.ofNat o), .int (Int32.ofNat s), .ref 111, .ref 112, .ref 113, .ref 114])), (111, wrd ws), (112, ia sgl), (113, ia nbl)])) (some (.int (Int32.ofNat j)), ov (ov H ((1, tcl n lim a kd pl w le nu tk (Int32.ofNat 0) fp) :: (2, bcl bs) :: [(13, dcl13 P Dn lw cl id gl bo), (14, lng pn), (15, ia ri), (16, ia lf), (17, ia wa), (18, ia fo), (19, lng dn), (20, ia ha), (21, ia pa), (22, ia bl), (110, .inr (7, [.int (Int32.ofNat o), .int (Int32.ofNat s), .ref 111, .ref 112, .ref 113, .ref 114])), (111, wrd ws), (112, ia sgl), (113, ia nbl)])) [(1, tcl n lim a kd pl w le nu tk (Int32.ofNat 0) fp)]) := by
          refine FR_st2 (l2 := ((1, tcl n lim a kd pl w le nu tk (Int32.ofNat 0) fp) :: (2, bcl bs) :: [(13, dcl13 P Dn lw cl id gl bo), (14, lng pn), (15, ia ri), (16, ia lf), (17, ia wa), (18, ia fo), (19, lng dn), (20, ia ha), (21, ia pa), (22, ia bl), (110, .inr (7, [.int (Int32.ofNat o), .int (Int32.ofNat s), .ref 111, .ref 112, .ref 113, .ref 114])), (111, wrd ws), (112, ia sgl), (113, ia nbl)])) rfl rfl rfl ?_
          refine RT_step (pc2 := 1) rfl (fun _ _ => rfl) ?_
          refine RT_step (pc2 := 2) rfl (fun _ _ => rfl) ?_
          refine ow_gf rfl rfl rfl hlen rfl ?_
          refine RT_step (pc2 := 6) rfl (fun _ _ => rfl) ?_
          refine ow_gf rfl rfl rfl hlen rfl ?_
          refine ow_is1 (l2 := ((1, tcl n lim a kd pl w le nu tk (Int32.ofNat 0) fp) :: (2, bcl bs) :: [(13, dcl13 P Dn lw cl id gl bo), (14, lng pn), (15, ia ri), (16, ia lf), (17, ia wa), (18, ia fo), (19, lng dn), (20, ia ha), (21, ia pa), (22, ia bl), (110, .inr (7, [.int (Int32.ofNat o), .int (Int32.ofNat s), .ref 111, .ref 112, .ref 113, .ref 114])), (111, wrd ws), (112, ia sgl), (113, ia nbl)])) rfl rfl rfl rfl rfl (hz.up (by decide)) rfl ?_
          exact ow_irt rfl rfl rfl
        refine FR_st2 (l2 := ((1, tcl n lim a1 kd1 pl1 w1 le1 nu1 tk (Int32.ofNat 0) fp1) :: (2, bcl bs) :: [(13, dcl13 P Dn lw cl id gl bo), (14, lng pn), (15, ia ri), (16, ia lf), (17, ia wa), (18, ia fo), (19, lng dn), (20, ia ha), (21, ia pa), (22, ia bl), (110, .inr (7, [.int (Int32.ofNat o), .int (Int32.ofNat s2), .ref 111, .ref 112, .ref 113, .ref 114])), (111, wrd ws2), (112, ia sl2), (113, ia nb2)])) rfl rfl rfl ?_
        refine RT_step (pc2 := 1) rfl (fun _ _ => rfl) ?_
        refine RT_step (pc2 := 2) rfl (fun _ _ => rfl) ?_
        refine ow_iv1 (l2 := ((1, tcl n lim a kd pl w le nu tk (Int32.ofNat 0) fp) :: (2, bcl bs) :: [(13, dcl13 P Dn lw cl id gl bo), (14, lng pn), (15, ia ri), (16, ia lf), (17, ia wa), (18, ia fo), (19, lng dn), (20, ia ha), (21, ia pa), (22, ia bl), (110, .inr (7, [.int (Int32.ofNat o), .int (Int32.ofNat s), .ref 111, .ref 112, .ref 113, .ref 114])), (111, wrd ws), (112, ia sgl), (113, ia nbl)])) rfl rfl rfl rfl hlen rfl rfl rfl (hy.up (by decide)) rfl ?_
        refine RT_step (pc2 := 6) rfl (fun _ _ => rfl) ?_
        refine RT_step (pc2 := 7) rfl (fun _ _ => rfl) ?_
        refine rt_ico rfl ki_m1 ?_
        refine biF_ne rfl (n_m1 (by omega)) ?_
        refine RT_step (pc2 := 14) rfl (fun _ _ => rfl) ?_
        refine RT_step (pc2 := 17) rfl (fun _ _ => rfl) ?_
        refine rt_bip rfl k8_61 ?_
        refine RT_step (pc2 := 20) rfl (fun _ _ => rfl) ?_
        refine ow_iv0 (l2 := ((1, tcl n lim a kd pl w le nu tk (Int32.ofNat 0) fp) :: (2, bcl bs) :: [(13, dcl13 P Dn lw cl id gl bo), (14, lng pn), (15, ia ri), (16, ia lf), (17, ia wa), (18, ia fo), (19, lng dn), (20, ia ha), (21, ia pa), (22, ia bl), (110, .inr (7, [.int (Int32.ofNat o), .int (Int32.ofNat s2), .ref 111, .ref 112, .ref 113, .ref 114])), (111, wrd ws2), (112, ia sl2), (113, ia nb2)])) rfl rfl rfl rfl hlen rfl rfl rfl ((hadd _ _ (ov_hl hlen) (ov_at rfl (ov_lt hlen (by decide))) (ov_at rfl (ov_lt hlen (by decide))) (ov_at rfl (ov_lt hlen (by decide))) (ov_at rfl (ov_lt hlen (by decide)))).up (by decide)) rfl ?_
        refine RT_step (pc2 := 24) rfl (fun _ _ => rfl) ?_
        refine ow_iv0 (l2 := ((1, tcl n lim a1 kd1 pl1 w1 le1 nu1 tk (Int32.ofNat 0) fp1) :: (2, bcl bs) :: [(13, dcl13 P Dn lw cl id gl bo), (14, lng pn), (15, ia ri), (16, ia lf), (17, ia wa), (18, ia fo), (19, lng dn), (20, ia ha), (21, ia pa), (22, ia bl), (110, .inr (7, [.int (Int32.ofNat o), .int (Int32.ofNat s2), .ref 111, .ref 112, .ref 113, .ref 114])), (111, wrd ws2), (112, ia sl2), (113, ia nb2)])) rfl rfl rfl rfl hlen rfl rfl rfl ((x1 _ (ov_hl hlen) (ov_at rfl (ov_lt hlen (by decide))) (ov_at rfl (ov_lt hlen (by decide)))).up (by decide)) rfl ?_
        refine rt_ico rfl ki_1 ?_
        exact ow_irt rfl rfl rfl
      · have hy : FR 4 257 [.ref 180, .int (Int32.ofNat 0), .int (Int32.ofNat P)] (ov H ((180, mcl (Int32.ofNat 0) (Int32.ofNat 0) n lim a pl (km kd) nm sg (Int32.ofNat 0) qm wd td (posn vs nn o wi tp)) :: (181, mtl ts) :: [(182, ia nw), (187, lng nz), (202, ia nl)])) (some (.int (Int32.ofNat 1)), ov (ov H ((180, mcl (Int32.ofNat 0) (Int32.ofNat 0) n lim a pl (km kd) nm sg (Int32.ofNat 0) qm wd td (posn vs nn o wi tp)) :: (181, mtl ts) :: [(182, ia nw), (187, lng nz), (202, ia nl)])) [(180, mcl (Int32.ofNat 0) (Int32.ofNat 0) n lim a1 pl1 (km kd1) nm1 sg1 (Int32.ofNat 0) qm1 wd1 (Int32.ofNat j) (posn vs nn o wi tp))]) := by
          refine FR_st2 (l2 := ((180, mcl (Int32.ofNat 0) (Int32.ofNat 0) n lim a1 pl1 (km kd1) nm1 sg1 (Int32.ofNat 0) qm1 wd1 (Int32.ofNat j) (posn vs nn o wi tp)) :: (181, mtl ts) :: [(182, ia nw), (187, lng nz), (202, ia nl)])) rfl rfl rfl ?_
          refine RT_step (pc2 := 1) rfl (fun _ _ => rfl) ?_
          refine ow_iv1 rfl rfl rfl rfl hlen rfl rfl rfl ((m_isName (ov_hl hlen) (ov_at rfl (ov_lt hlen (by decide))) hk).up (by decide)) rfl ?_
          refine bcF_ne rfl (b01_t hnm) ?_
          refine RT_step (pc2 := 14) rfl (fun _ _ => rfl) ?_
          refine RT_step (pc2 := 15) rfl (fun _ _ => rfl) ?_
          refine ow_gf rfl rfl rfl hlen rfl ?_
          refine RT_step (pc2 := 19) rfl (fun _ _ => rfl) ?_
          refine RT_step (pc2 := 20) rfl (fun _ _ => rfl) ?_
          refine RT_step (pc2 := 21) rfl (fun _ _ => rfl) ?_
          refine ow_gf rfl rfl rfl hlen rfl ?_
          refine ow_is1 rfl rfl rfl rfl rfl ((m_find7 (bs0 := 0) (cnt := P) (ov_hl hlen) (ov_at rfl (ov_lt hlen (by decide))) (by omega) (by omega)).up (by decide)) rfl ?_
          rw [show fdI (fd nz wd 0 P 0) = Int32.ofNat j from by rw [e2]; rfl]
          refine ow_pf (l2 := ((180, mcl (Int32.ofNat 0) (Int32.ofNat 0) n lim a pl (km kd) nm sg (Int32.ofNat 0) qm wd (Int32.ofNat j) (posn vs nn o wi tp)) :: (181, mtl ts) :: [(182, ia nw), (187, lng nz), (202, ia nl)])) rfl rfl rfl rfl rfl hlen rfl rfl ?_
          refine RT_step (pc2 := 31) rfl (fun _ _ => rfl) ?_
          refine ow_gf rfl rfl rfl hlen rfl ?_
          refine rt_ico rfl ki_m1 ?_
          refine biF_ne rfl (n_m1 (by omega)) ?_
          refine RT_step (pc2 := 45) rfl (fun _ _ => rfl) ?_
          refine ow_iv0 (l2 := ((180, mcl (Int32.ofNat 0) (Int32.ofNat 0) n lim a1 pl1 (km kd1) nm1 sg1 (Int32.ofNat 0) qm1 wd1 (Int32.ofNat j) (posn vs nn o wi tp)) :: (181, mtl ts) :: [(182, ia nw), (187, lng nz), (202, ia nl)])) rfl rfl rfl rfl hlen rfl rfl rfl ((m1 _ (ov_hl hlen) (ov_at rfl (ov_lt hlen (by decide))) (ov_at rfl (ov_lt hlen (by decide)))).up (by decide)) rfl ?_
          refine rt_ico rfl ki_1 ?_
          exact ow_irt rfl rfl rfl
        refine FR_st2 (l2 := ((180, mcl (Int32.ofNat 0) (Int32.ofNat 0) n lim a1 pl1 (km kd1) nm1 sg1 (Int32.ofNat 0) qm1 wd1 (Int32.ofNat j) (posn vs (nn + 1) o wi nn)) :: (181, mtl ts) :: [(182, ia nw), (187, lng nz), (202, ia ((((nl.set (4 * nn) (Int32.ofNat 75)).set (4 * nn + 1) (Int32.ofNat j)).set (4 * nn + 2) (Int32.ofNat 0)).set (4 * nn + 3) (Int32.ofNat 0)))])) rfl rfl rfl ?_
        refine RT_step (pc2 := 1) rfl (fun _ _ => rfl) ?_
        refine rt_ico rfl ki_0 ?_
        refine RT_step (pc2 := 3) rfl (fun _ _ => rfl) ?_
        refine ow_gf rfl rfl rfl hlen rfl ?_
        refine rt_ico rfl ki_0 ?_
        refine ow_ialN rfl rfl hv (by omega) hlen rfl ?_
        refine ow_iv1 (l2 := ((180, mcl (Int32.ofNat 0) (Int32.ofNat 0) n lim a1 pl1 (km kd1) nm1 sg1 (Int32.ofNat 0) qm1 wd1 (Int32.ofNat j) (posn vs nn o wi tp)) :: (181, mtl ts) :: [(182, ia nw), (187, lng nz), (202, ia nl)])) rfl rfl rfl rfl hlen rfl rfl rfl (hy.up (by decide)) rfl ?_
        refine bcF_ne rfl (by decide) ?_
        refine RT_step (pc2 := 17) rfl (fun _ _ => rfl) ?_
        refine RT_step (pc2 := 18) rfl (fun _ _ => rfl) ?_
        refine rt_bip rfl k8_50 ?_
        refine RT_step (pc2 := 21) rfl (fun _ _ => rfl) ?_
        refine ba_iadd rfl ?_
        rw [n_add]
        refine RT_step (pc2 := 23) rfl (fun _ _ => rfl) ?_
        refine ow_gf rfl rfl rfl hlen rfl ?_
        refine rt_ico rfl ki_0 ?_
        refine rt_ico rfl ki_0 ?_
        refine ow_iv1 (l2 := ((180, mcl (Int32.ofNat 0) (Int32.ofNat 0) n lim a1 pl1 (km kd1) nm1 sg1 (Int32.ofNat 0) qm1 wd1 (Int32.ofNat j) (posn vs (nn + 1) o wi tp)) :: (181, mtl ts) :: [(182, ia nw), (187, lng nz), (202, ia ((((nl.set (4 * nn) (Int32.ofNat 75)).set (4 * nn + 1) (Int32.ofNat j)).set (4 * nn + 2) (Int32.ofNat 0)).set (4 * nn + 3) (Int32.ofNat 0)))])) rfl rfl rfl rfl hlen rfl rfl rfl ((m_says (ov_hl hlen) (ov_at rfl (ov_lt hlen (by decide))) (ov_at rfl (ov_lt hlen (by decide))) ln hd).up (by decide)) rfl ?_
        refine ow_pf (l2 := ((180, mcl (Int32.ofNat 0) (Int32.ofNat 0) n lim a1 pl1 (km kd1) nm1 sg1 (Int32.ofNat 0) qm1 wd1 (Int32.ofNat j) (posn vs (nn + 1) o wi nn)) :: (181, mtl ts) :: [(182, ia nw), (187, lng nz), (202, ia ((((nl.set (4 * nn) (Int32.ofNat 75)).set (4 * nn + 1) (Int32.ofNat j)).set (4 * nn + 2) (Int32.ofNat 0)).set (4 * nn + 3) (Int32.ofNat 0)))])) rfl rfl rfl rfl rfl hlen rfl rfl ?_
        refine rt_ico rfl ki_1 ?_
        exact ow_irt rfl rfl rfl
    | none =>
      have e2 := q1.symm.trans e1
      obtain ⟨T, M, f, hx, hm⟩ := s_ref (bs := bs) (ts := ts) (lim := lim) (po := (posn vs nn o wi tp)) (pl := pl) (tk := tk) (td := (-1 : Int32)) (fp := fp) (plM := qm) t (kk := 3) (by decide) (by decide) (Or.inl (by omega))
      refine Or.inl ⟨T, M, f, fun H hlen => ?_, fun H hlen => ?_⟩
      · have hz : FR 2 71 [.ref 1, .ref 14, .int (Int32.ofNat P)] (ov H ((1, tcl n lim a kd pl w le nu tk (Int32.ofNat 0) fp) :: (2, bcl bs) :: [(13, dcl13 P Dn lw cl id gl bo), (14, lng pn), (15, ia ri), (16, ia lf), (17, ia wa), (18, ia fo), (19, lng dn), (20, ia ha), (21, ia pa), (22, ia bl), (110, .inr (7, [.int (Int32.ofNat o), .int (Int32.ofNat s), .ref 111, .ref 112, .ref 113, .ref 114])), (111, wrd ws), (112, ia sgl), (113, ia nbl)])) (some (.int (-1 : Int32)), ov (ov H ((1, tcl n lim a kd pl w le nu tk (Int32.ofNat 0) fp) :: (2, bcl bs) :: [(13, dcl13 P Dn lw cl id gl bo), (14, lng pn), (15, ia ri), (16, ia lf), (17, ia wa), (18, ia fo), (19, lng dn), (20, ia ha), (21, ia pa), (22, ia bl), (110, .inr (7, [.int (Int32.ofNat o), .int (Int32.ofNat s), .ref 111, .ref 112, .ref 113, .ref 114])), (111, wrd ws), (112, ia sgl), (113, ia nbl)])) [(1, T)]) := by
          refine FR_st2 (l2 := ((1, T) :: (2, bcl bs) :: [(13, dcl13 P Dn lw cl id gl bo), (14, lng pn), (15, ia ri), (16, ia lf), (17, ia wa), (18, ia fo), (19, lng dn), (20, ia ha), (21, ia pa), (22, ia bl), (110, .inr (7, [.int (Int32.ofNat o), .int (Int32.ofNat s), .ref 111, .ref 112, .ref 113, .ref 114])), (111, wrd ws), (112, ia sgl), (113, ia nbl)])) rfl rfl rfl ?_
          refine RT_step (pc2 := 1) rfl (fun _ _ => rfl) ?_
          refine ow_gf rfl rfl rfl hlen rfl ?_
          refine RT_step (pc2 := 7) rfl (fun _ _ => rfl) ?_
          refine rt_acE rfl (by omega) (by omega) ?_
          refine RT_if c ?_
          refine RT_step (pc2 := 19) rfl (fun _ _ => rfl) ?_
          refine RT_step (pc2 := 20) rfl (fun _ _ => rfl) ?_
          refine RT_step (pc2 := 21) rfl (fun _ _ => rfl) ?_
          refine ow_gf rfl rfl rfl hlen rfl ?_
          refine ow_is1 rfl rfl rfl rfl rfl ((x_find14 (ov_hl hlen) (ov_at rfl (ov_lt hlen (by decide))) (by omega) (by omega)).up (by decide)) rfl ?_
          rw [show fdI (fd pn le 0 P 0) = (-1 : Int32) from by rw [e1]; rfl]
          refine RT_step (pc2 := 28) rfl (fun _ _ => rfl) ?_
          refine RT_step (pc2 := 29) rfl (fun _ _ => rfl) ?_
          refine rt_ico rfl ki_m1 ?_
          refine biT_ne rfl rfl ?_
          refine RT_step (pc2 := 34) rfl (fun _ _ => rfl) ?_
          refine rt_ico rfl ki_3 ?_
          refine ow_iv1 rfl rfl rfl rfl hlen rfl rfl rfl ((hx _ (ov_hl hlen) (ov_at rfl (ov_lt hlen (by decide))) (ov_at rfl (ov_lt hlen (by decide)))).up (by decide)) rfl ?_
          refine RT_step (pc2 := 39) rfl (fun _ _ => rfl) ?_
          refine RT_step (pc2 := 40) rfl (fun _ _ => rfl) ?_
          exact ow_irt rfl rfl rfl
        have hy : FR 3 73 [.ref 13, .ref 1] (ov H ((1, tcl n lim a kd pl w le nu tk (Int32.ofNat 0) fp) :: (2, bcl bs) :: [(13, dcl13 P Dn lw cl id gl bo), (14, lng pn), (15, ia ri), (16, ia lf), (17, ia wa), (18, ia fo), (19, lng dn), (20, ia ha), (21, ia pa), (22, ia bl), (110, .inr (7, [.int (Int32.ofNat o), .int (Int32.ofNat s), .ref 111, .ref 112, .ref 113, .ref 114])), (111, wrd ws), (112, ia sgl), (113, ia nbl)])) (some (.int (-1 : Int32)), ov (ov H ((1, tcl n lim a kd pl w le nu tk (Int32.ofNat 0) fp) :: (2, bcl bs) :: [(13, dcl13 P Dn lw cl id gl bo), (14, lng pn), (15, ia ri), (16, ia lf), (17, ia wa), (18, ia fo), (19, lng dn), (20, ia ha), (21, ia pa), (22, ia bl), (110, .inr (7, [.int (Int32.ofNat o), .int (Int32.ofNat s), .ref 111, .ref 112, .ref 113, .ref 114])), (111, wrd ws), (112, ia sgl), (113, ia nbl)])) [(1, T)]) := by
          refine FR_st2 (l2 := ((1, T) :: (2, bcl bs) :: [(13, dcl13 P Dn lw cl id gl bo), (14, lng pn), (15, ia ri), (16, ia lf), (17, ia wa), (18, ia fo), (19, lng dn), (20, ia ha), (21, ia pa), (22, ia bl), (110, .inr (7, [.int (Int32.ofNat o), .int (Int32.ofNat s), .ref 111, .ref 112, .ref 113, .ref 114])), (111, wrd ws), (112, ia sgl), (113, ia nbl)])) rfl rfl rfl ?_
          refine RT_step (pc2 := 1) rfl (fun _ _ => rfl) ?_
          refine RT_step (pc2 := 2) rfl (fun _ _ => rfl) ?_
          refine ow_gf rfl rfl rfl hlen rfl ?_
          refine RT_step (pc2 := 6) rfl (fun _ _ => rfl) ?_
          refine ow_gf rfl rfl rfl hlen rfl ?_
          refine ow_is1 (l2 := ((1, T) :: (2, bcl bs) :: [(13, dcl13 P Dn lw cl id gl bo), (14, lng pn), (15, ia ri), (16, ia lf), (17, ia wa), (18, ia fo), (19, lng dn), (20, ia ha), (21, ia pa), (22, ia bl), (110, .inr (7, [.int (Int32.ofNat o), .int (Int32.ofNat s), .ref 111, .ref 112, .ref 113, .ref 114])), (111, wrd ws), (112, ia sgl), (113, ia nbl)])) rfl rfl rfl rfl rfl (hz.up (by decide)) rfl ?_
          exact ow_irt rfl rfl rfl
        refine FR_st2 (l2 := ((1, T) :: (2, bcl bs) :: [(13, dcl13 P Dn lw cl id gl bo), (14, lng pn), (15, ia ri), (16, ia lf), (17, ia wa), (18, ia fo), (19, lng dn), (20, ia ha), (21, ia pa), (22, ia bl), (110, .inr (7, [.int (Int32.ofNat o), .int (Int32.ofNat s), .ref 111, .ref 112, .ref 113, .ref 114])), (111, wrd ws), (112, ia sgl), (113, ia nbl)])) rfl rfl rfl ?_
        refine RT_step (pc2 := 1) rfl (fun _ _ => rfl) ?_
        refine RT_step (pc2 := 2) rfl (fun _ _ => rfl) ?_
        refine ow_iv1 (l2 := ((1, T) :: (2, bcl bs) :: [(13, dcl13 P Dn lw cl id gl bo), (14, lng pn), (15, ia ri), (16, ia lf), (17, ia wa), (18, ia fo), (19, lng dn), (20, ia ha), (21, ia pa), (22, ia bl), (110, .inr (7, [.int (Int32.ofNat o), .int (Int32.ofNat s), .ref 111, .ref 112, .ref 113, .ref 114])), (111, wrd ws), (112, ia sgl), (113, ia nbl)])) rfl rfl rfl rfl hlen rfl rfl rfl (hy.up (by decide)) rfl ?_
        refine RT_step (pc2 := 6) rfl (fun _ _ => rfl) ?_
        refine RT_step (pc2 := 7) rfl (fun _ _ => rfl) ?_
        refine rt_ico rfl ki_m1 ?_
        refine biT_ne rfl rfl ?_
        refine rt_ico rfl ki_0 ?_
        exact ow_irt rfl rfl rfl
      · have hy : FR 4 257 [.ref 180, .int (Int32.ofNat 0), .int (Int32.ofNat P)] (ov H ((180, mcl (Int32.ofNat 0) (Int32.ofNat 0) n lim a pl (km kd) nm sg (Int32.ofNat 0) qm wd td (posn vs nn o wi tp)) :: (181, mtl ts) :: [(182, ia nw), (187, lng nz), (202, ia nl)])) (some (.int (Int32.ofNat 0)), ov (ov H ((180, mcl (Int32.ofNat 0) (Int32.ofNat 0) n lim a pl (km kd) nm sg (Int32.ofNat 0) qm wd td (posn vs nn o wi tp)) :: (181, mtl ts) :: [(182, ia nw), (187, lng nz), (202, ia nl)])) [(180, M)]) := by
          refine FR_st2 (l2 := ((180, M) :: (181, mtl ts) :: [(182, ia nw), (187, lng nz), (202, ia nl)])) rfl rfl rfl ?_
          refine RT_step (pc2 := 1) rfl (fun _ _ => rfl) ?_
          refine ow_iv1 rfl rfl rfl rfl hlen rfl rfl rfl ((m_isName (ov_hl hlen) (ov_at rfl (ov_lt hlen (by decide))) hk).up (by decide)) rfl ?_
          refine bcF_ne rfl (b01_t hnm) ?_
          refine RT_step (pc2 := 14) rfl (fun _ _ => rfl) ?_
          refine RT_step (pc2 := 15) rfl (fun _ _ => rfl) ?_
          refine ow_gf rfl rfl rfl hlen rfl ?_
          refine RT_step (pc2 := 19) rfl (fun _ _ => rfl) ?_
          refine RT_step (pc2 := 20) rfl (fun _ _ => rfl) ?_
          refine RT_step (pc2 := 21) rfl (fun _ _ => rfl) ?_
          refine ow_gf rfl rfl rfl hlen rfl ?_
          refine ow_is1 rfl rfl rfl rfl rfl ((m_find7 (bs0 := 0) (cnt := P) (ov_hl hlen) (ov_at rfl (ov_lt hlen (by decide))) (by omega) (by omega)).up (by decide)) rfl ?_
          rw [show fdI (fd nz wd 0 P 0) = (-1 : Int32) from by rw [e2]; rfl]
          refine ow_pf (l2 := ((180, mcl (Int32.ofNat 0) (Int32.ofNat 0) n lim a pl (km kd) nm sg (Int32.ofNat 0) qm wd (-1 : Int32) (posn vs nn o wi tp)) :: (181, mtl ts) :: [(182, ia nw), (187, lng nz), (202, ia nl)])) rfl rfl rfl rfl rfl hlen rfl rfl ?_
          refine RT_step (pc2 := 31) rfl (fun _ _ => rfl) ?_
          refine ow_gf rfl rfl rfl hlen rfl ?_
          refine rt_ico rfl ki_m1 ?_
          refine biT_ne rfl rfl ?_
          refine RT_step (pc2 := 39) rfl (fun _ _ => rfl) ?_
          refine rt_ico rfl ki_3 ?_
          refine ow_iv1 (l2 := ((180, M) :: (181, mtl ts) :: [(182, ia nw), (187, lng nz), (202, ia nl)])) rfl rfl rfl rfl hlen rfl rfl rfl ((hm _ (ov_hl hlen) (ov_at rfl (ov_lt hlen (by decide))) (ov_at rfl (ov_lt hlen (by decide)))).up (by decide)) rfl ?_
          exact ow_irt rfl rfl rfl
        refine FR_st2 (l2 := ((180, M) :: (181, mtl ts) :: [(182, ia nw), (187, lng nz), (202, ia nl)])) rfl rfl rfl ?_
        refine RT_step (pc2 := 1) rfl (fun _ _ => rfl) ?_
        refine rt_ico rfl ki_0 ?_
        refine RT_step (pc2 := 3) rfl (fun _ _ => rfl) ?_
        refine ow_gf rfl rfl rfl hlen rfl ?_
        refine rt_ico rfl ki_0 ?_
        refine ow_ialN rfl rfl hv (by omega) hlen rfl ?_
        refine ow_iv1 (l2 := ((180, M) :: (181, mtl ts) :: [(182, ia nw), (187, lng nz), (202, ia nl)])) rfl rfl rfl rfl hlen rfl rfl rfl (hy.up (by decide)) rfl ?_
        refine bcT_ne rfl rfl ?_
        refine rt_ico rfl ki_0 ?_
        exact ow_irt rfl rfl rfl
  · have hnm : (Nat.beq (km kd) 2 && nmB wd 30 0) = false := by rw [w_nm t]; exact decide_eq_false c
    obtain ⟨T, M, f, hx, hm⟩ := s_ref (bs := bs) (ts := ts) (lim := lim) (po := (posn vs nn o wi tp)) (pl := pl) (tk := tk) (td := td) (fp := fp) (plM := qm) t (kk := 1) (by decide) (by decide) (Or.inr rfl)
    refine Or.inl ⟨T, M, f, fun H hlen => ?_, fun H hlen => ?_⟩
    · have hz : FR 2 71 [.ref 1, .ref 14, .int (Int32.ofNat P)] (ov H ((1, tcl n lim a kd pl w le nu tk (Int32.ofNat 0) fp) :: (2, bcl bs) :: [(13, dcl13 P Dn lw cl id gl bo), (14, lng pn), (15, ia ri), (16, ia lf), (17, ia wa), (18, ia fo), (19, lng dn), (20, ia ha), (21, ia pa), (22, ia bl), (110, .inr (7, [.int (Int32.ofNat o), .int (Int32.ofNat s), .ref 111, .ref 112, .ref 113, .ref 114])), (111, wrd ws), (112, ia sgl), (113, ia nbl)])) (some (.int (-1 : Int32)), ov (ov H ((1, tcl n lim a kd pl w le nu tk (Int32.ofNat 0) fp) :: (2, bcl bs) :: [(13, dcl13 P Dn lw cl id gl bo), (14, lng pn), (15, ia ri), (16, ia lf), (17, ia wa), (18, ia fo), (19, lng dn), (20, ia ha), (21, ia pa), (22, ia bl), (110, .inr (7, [.int (Int32.ofNat o), .int (Int32.ofNat s), .ref 111, .ref 112, .ref 113, .ref 114])), (111, wrd ws), (112, ia sgl), (113, ia nbl)])) [(1, T)]) := by
        refine FR_st2 (l2 := ((1, T) :: (2, bcl bs) :: [(13, dcl13 P Dn lw cl id gl bo), (14, lng pn), (15, ia ri), (16, ia lf), (17, ia wa), (18, ia fo), (19, lng dn), (20, ia ha), (21, ia pa), (22, ia bl), (110, .inr (7, [.int (Int32.ofNat o), .int (Int32.ofNat s), .ref 111, .ref 112, .ref 113, .ref 114])), (111, wrd ws), (112, ia sgl), (113, ia nbl)])) rfl rfl rfl ?_
        refine RT_step (pc2 := 1) rfl (fun _ _ => rfl) ?_
        refine ow_gf rfl rfl rfl hlen rfl ?_
        refine RT_step (pc2 := 7) rfl (fun _ _ => rfl) ?_
        refine rt_acE rfl (by omega) (by omega) ?_
        refine RT_el c ?_
        refine RT_step (pc2 := 11) rfl (fun _ _ => rfl) ?_
        refine rt_ico rfl ki_1 ?_
        refine ow_iv1 rfl rfl rfl rfl hlen rfl rfl rfl ((hx _ (ov_hl hlen) (ov_at rfl (ov_lt hlen (by decide))) (ov_at rfl (ov_lt hlen (by decide)))).up (by decide)) rfl ?_
        refine RT_step (pc2 := 16) rfl (fun _ _ => rfl) ?_
        refine rt_ico rfl ki_m1 ?_
        exact ow_irt rfl rfl rfl
      have hy : FR 3 73 [.ref 13, .ref 1] (ov H ((1, tcl n lim a kd pl w le nu tk (Int32.ofNat 0) fp) :: (2, bcl bs) :: [(13, dcl13 P Dn lw cl id gl bo), (14, lng pn), (15, ia ri), (16, ia lf), (17, ia wa), (18, ia fo), (19, lng dn), (20, ia ha), (21, ia pa), (22, ia bl), (110, .inr (7, [.int (Int32.ofNat o), .int (Int32.ofNat s), .ref 111, .ref 112, .ref 113, .ref 114])), (111, wrd ws), (112, ia sgl), (113, ia nbl)])) (some (.int (-1 : Int32)), ov (ov H ((1, tcl n lim a kd pl w le nu tk (Int32.ofNat 0) fp) :: (2, bcl bs) :: [(13, dcl13 P Dn lw cl id gl bo), (14, lng pn), (15, ia ri), (16, ia lf), (17, ia wa), (18, ia fo), (19, lng dn), (20, ia ha), (21, ia pa), (22, ia bl), (110, .inr (7, [.int (Int32.ofNat o), .int (Int32.ofNat s), .ref 111, .ref 112, .ref 113, .ref 114])), (111, wrd ws), (112, ia sgl), (113, ia nbl)])) [(1, T)]) := by
        refine FR_st2 (l2 := ((1, T) :: (2, bcl bs) :: [(13, dcl13 P Dn lw cl id gl bo), (14, lng pn), (15, ia ri), (16, ia lf), (17, ia wa), (18, ia fo), (19, lng dn), (20, ia ha), (21, ia pa), (22, ia bl), (110, .inr (7, [.int (Int32.ofNat o), .int (Int32.ofNat s), .ref 111, .ref 112, .ref 113, .ref 114])), (111, wrd ws), (112, ia sgl), (113, ia nbl)])) rfl rfl rfl ?_
        refine RT_step (pc2 := 1) rfl (fun _ _ => rfl) ?_
        refine RT_step (pc2 := 2) rfl (fun _ _ => rfl) ?_
        refine ow_gf rfl rfl rfl hlen rfl ?_
        refine RT_step (pc2 := 6) rfl (fun _ _ => rfl) ?_
        refine ow_gf rfl rfl rfl hlen rfl ?_
        refine ow_is1 (l2 := ((1, T) :: (2, bcl bs) :: [(13, dcl13 P Dn lw cl id gl bo), (14, lng pn), (15, ia ri), (16, ia lf), (17, ia wa), (18, ia fo), (19, lng dn), (20, ia ha), (21, ia pa), (22, ia bl), (110, .inr (7, [.int (Int32.ofNat o), .int (Int32.ofNat s), .ref 111, .ref 112, .ref 113, .ref 114])), (111, wrd ws), (112, ia sgl), (113, ia nbl)])) rfl rfl rfl rfl rfl (hz.up (by decide)) rfl ?_
        exact ow_irt rfl rfl rfl
      refine FR_st2 (l2 := ((1, T) :: (2, bcl bs) :: [(13, dcl13 P Dn lw cl id gl bo), (14, lng pn), (15, ia ri), (16, ia lf), (17, ia wa), (18, ia fo), (19, lng dn), (20, ia ha), (21, ia pa), (22, ia bl), (110, .inr (7, [.int (Int32.ofNat o), .int (Int32.ofNat s), .ref 111, .ref 112, .ref 113, .ref 114])), (111, wrd ws), (112, ia sgl), (113, ia nbl)])) rfl rfl rfl ?_
      refine RT_step (pc2 := 1) rfl (fun _ _ => rfl) ?_
      refine RT_step (pc2 := 2) rfl (fun _ _ => rfl) ?_
      refine ow_iv1 (l2 := ((1, T) :: (2, bcl bs) :: [(13, dcl13 P Dn lw cl id gl bo), (14, lng pn), (15, ia ri), (16, ia lf), (17, ia wa), (18, ia fo), (19, lng dn), (20, ia ha), (21, ia pa), (22, ia bl), (110, .inr (7, [.int (Int32.ofNat o), .int (Int32.ofNat s), .ref 111, .ref 112, .ref 113, .ref 114])), (111, wrd ws), (112, ia sgl), (113, ia nbl)])) rfl rfl rfl rfl hlen rfl rfl rfl (hy.up (by decide)) rfl ?_
      refine RT_step (pc2 := 6) rfl (fun _ _ => rfl) ?_
      refine RT_step (pc2 := 7) rfl (fun _ _ => rfl) ?_
      refine rt_ico rfl ki_m1 ?_
      refine biT_ne rfl rfl ?_
      refine rt_ico rfl ki_0 ?_
      exact ow_irt rfl rfl rfl
    · have hy : FR 4 257 [.ref 180, .int (Int32.ofNat 0), .int (Int32.ofNat P)] (ov H ((180, mcl (Int32.ofNat 0) (Int32.ofNat 0) n lim a pl (km kd) nm sg (Int32.ofNat 0) qm wd td (posn vs nn o wi tp)) :: (181, mtl ts) :: [(182, ia nw), (187, lng nz), (202, ia nl)])) (some (.int (Int32.ofNat 0)), ov (ov H ((180, mcl (Int32.ofNat 0) (Int32.ofNat 0) n lim a pl (km kd) nm sg (Int32.ofNat 0) qm wd td (posn vs nn o wi tp)) :: (181, mtl ts) :: [(182, ia nw), (187, lng nz), (202, ia nl)])) [(180, M)]) := by
        refine FR_st2 (l2 := ((180, M) :: (181, mtl ts) :: [(182, ia nw), (187, lng nz), (202, ia nl)])) rfl rfl rfl ?_
        refine RT_step (pc2 := 1) rfl (fun _ _ => rfl) ?_
        refine ow_iv1 rfl rfl rfl rfl hlen rfl rfl rfl ((m_isName (ov_hl hlen) (ov_at rfl (ov_lt hlen (by decide))) hk).up (by decide)) rfl ?_
        refine bcT_ne rfl (b01_f hnm) ?_
        refine RT_step (pc2 := 8) rfl (fun _ _ => rfl) ?_
        refine rt_ico rfl ki_1 ?_
        refine ow_iv1 (l2 := ((180, M) :: (181, mtl ts) :: [(182, ia nw), (187, lng nz), (202, ia nl)])) rfl rfl rfl rfl hlen rfl rfl rfl ((hm _ (ov_hl hlen) (ov_at rfl (ov_lt hlen (by decide))) (ov_at rfl (ov_lt hlen (by decide)))).up (by decide)) rfl ?_
        exact ow_irt rfl rfl rfl
      refine FR_st2 (l2 := ((180, M) :: (181, mtl ts) :: [(182, ia nw), (187, lng nz), (202, ia nl)])) rfl rfl rfl ?_
      refine RT_step (pc2 := 1) rfl (fun _ _ => rfl) ?_
      refine rt_ico rfl ki_0 ?_
      refine RT_step (pc2 := 3) rfl (fun _ _ => rfl) ?_
      refine ow_gf rfl rfl rfl hlen rfl ?_
      refine rt_ico rfl ki_0 ?_
      refine ow_ialN rfl rfl hv (by omega) hlen rfl ?_
      refine ow_iv1 (l2 := ((180, M) :: (181, mtl ts) :: [(182, ia nw), (187, lng nz), (202, ia nl)])) rfl rfl rfl rfl hlen rfl rfl rfl (hy.up (by decide)) rfl ?_
      refine bcT_ne rfl rfl ?_
      refine rt_ico rfl ki_0 ?_
      exact ow_irt rfl rfl rfl
theorem sm13_110 {B : Nat → Nat} {bs ts : List Int32} {vs : Nat → Value} {n lim : Nat} {k a kd pl w : Nat} {le : Int64} {nu tk td fp nm sg qm : Int32} {wd : Int64} {o s nn wi tp : Nat} {ws : List (Option Nat)} {sgl nbl nl nw : List Int32} {nz : List Int64} {P : Nat} {Dn : Nat} {lw : Int32} {cl : Int32} {id : Int32} {gl : Nat} {bo : Nat} {pn : List Int64} {ri : List Int32} {lf : List Int32} {wa : List Int32} {fo : List Int32} {dn : List Int64} {ha : List Int32} {pa : List Int32} {bl : List Int32} (hB : BY bs B) (hM : MY ts B) (hb : ∀ i, B i < 256) (hn : n ≤ 940) (hl : lim ≤ 940) (t : TF k n a kd w le nu nm sg wd) (sx : SX s ws sgl nbl) (ln : nl.length = 240) (hd : nn < 60) (ho : o ≤ 20) (hw8 : wi ≤ 8) {w0 j0 : Nat} (hw0 : w0 < 32) (hj0 : j0 < 100) : (∃ T M, FC n lim (posn vs nn o wi tp) T M ∧ LSn 5 144 [.ref 110, .ref 1, .retAddr w0] 5 248 [.ref 180, .int (Int32.ofNat j0)] ((1, tcl n lim a kd pl w le nu tk (Int32.ofNat 0) fp) :: (2, bcl bs) :: [(13, dcl13 P Dn lw cl id gl bo), (14, lng pn), (15, ia ri), (16, ia lf), (17, ia wa), (18, ia fo), (19, lng dn), (20, ia ha), (21, ia pa), (22, ia bl), (110, .inr (7, [.int (Int32.ofNat o), .int (Int32.ofNat s), .ref 111, .ref 112, .ref 113, .ref 114])), (111, wrd ws), (112, ia sgl), (113, ia nbl)]) ((180, mcl (Int32.ofNat 0) (Int32.ofNat 0) n lim a pl (km kd) nm sg (Int32.ofNat 0) qm wd td (posn vs nn o wi tp)) :: (181, mtl ts) :: [(182, ia nw), (187, lng nz), (202, ia nl)]) (.int (Int32.ofNat 0)) (.int (Int32.ofNat 0)) [(1, T), (110, .inr (7, [.int (Int32.ofNat o), .int (Int32.ofNat s), .ref 111, .ref 112, .ref 113, .ref 114])), (111, wrd ws), (112, ia sgl), (113, ia nbl)] [(180, M), (202, ia nl)]) ∨ (∃ (tk2 td2 : Int32) (T M : AE) (s2 : Nat) (ws2 : List (Option Nat)) (sl2 nb2 nl2 : List Int32), TC n lim (posn vs (nn + 1) o wi nn) (k + 2) tk2 td2 T M ∧ SX s2 ws2 sl2 nb2 ∧ nl2.length = 240 ∧ LSn 5 144 [.ref 110, .ref 1, .retAddr w0] 5 248 [.ref 180, .int (Int32.ofNat j0)] ((1, tcl n lim a kd pl w le nu tk (Int32.ofNat 0) fp) :: (2, bcl bs) :: [(13, dcl13 P Dn lw cl id gl bo), (14, lng pn), (15, ia ri), (16, ia lf), (17, ia wa), (18, ia fo), (19, lng dn), (20, ia ha), (21, ia pa), (22, ia bl), (110, .inr (7, [.int (Int32.ofNat o), .int (Int32.ofNat s), .ref 111, .ref 112, .ref 113, .ref 114])), (111, wrd ws), (112, ia sgl), (113, ia nbl)]) ((180, mcl (Int32.ofNat 0) (Int32.ofNat 0) n lim a pl (km kd) nm sg (Int32.ofNat 0) qm wd td (posn vs nn o wi tp)) :: (181, mtl ts) :: [(182, ia nw), (187, lng nz), (202, ia nl)]) (.int (Int32.ofNat 1)) (.int (Int32.ofNat 1)) [(1, T), (110, .inr (7, [.int (Int32.ofNat o), .int (Int32.ofNat s2), .ref 111, .ref 112, .ref 113, .ref 114])), (111, wrd ws2), (112, ia sl2), (113, ia nb2)] [(180, M), (202, ia nl2)]) := by
  have hk := (km_is kd t.2.2.2.1).2.2.2.2.2
  obtain ⟨k2_, k1_, k3_, k4_, k0_, k10⟩ := km_is kd t.2.2.2.1
  obtain ⟨sv, sv1, sv2, sv3⟩ : ∃ sv : Nat, sv < 256 ∧ (kd = 3 → nu = Int32.ofNat sv) ∧ (km kd = 4 → sg = Int32.ofNat sv) := by
    by_cases c3 : kd = 3
    · obtain ⟨c, c1, c2, c4⟩ := t.2.2.2.2.2.2.2.2 c3
      exact ⟨c, c1, fun _ => c2, fun _ => c4⟩
    · exact ⟨0, by decide, fun e => absurd e c3, fun e => absurd (k4_.mp e) c3⟩
  have hk5 : kd < 10 := by have := t.2.2.2.1; omega
  have bq : ∀ c : Nat, (Nat.beq (km kd) 4 && Nat.beq sv c) = (Nat.beq kd 3 && Nat.beq sv c) := by
    intro c
    by_cases c3 : kd = 3
    · rw [c3]; rfl
    · rw [nbqf c3, nbqf (fun e => c3 (k4_.mp e))]
  by_cases cc : (Nat.beq kd 3 && Nat.beq sv 60) = true ∨ (Nat.beq kd 3 && Nat.beq sv 61) = true ∨ (Nat.beq kd 3 && Nat.beq sv 62) = true
  · have k3 : kd = 3 := by
      rcases cc with e | e | e <;> (rw [Bool.and_eq_true] at e; exact Nat.eq_of_beq_eq_true e.1)
    obtain ⟨T1, M1, c1, x1, m1⟩ := s_adv hB hM hb hn hl (po := (posn vs nn o wi tp)) (pl := pl) (tk := tk) (td := td) (fp := fp) (plM := qm) t (by omega) (by omega)
    obtain ⟨a1, kd1, pl1, w1, le1, nu1, fp1, nm1, sg1, qm1, wd1, rfl, rfl, t1⟩ := c1
    have e1 : nu = Int32.ofNat sv := sv2 k3
    have e2 : sg = Int32.ofNat sv := sv3 (k4_.mpr k3)
    rcases s_num hB hM hb hn hl (po := (posn vs nn o wi tp)) (pl := pl1) (tk := tk) (td := td) (fp := fp1) (plM := qm1) t1 (lo := 0) (hi := 999) (by decide) (by decide) with ⟨T, M, f, hx, hm⟩ | ⟨v, T3, M3, v1, v2, c3, hx, hm⟩
    · refine Or.inl ⟨T, M, f, ?_⟩
      rcases sgn3 cc with g | ⟨g1, g⟩ | ⟨g1, g2, g⟩
      · refine ⟨fun H hlen => ?_, fun H hlen => ?_⟩
        · refine FR_st2 (l2 := ((1, T) :: (2, bcl bs) :: [(13, dcl13 P Dn lw cl id gl bo), (14, lng pn), (15, ia ri), (16, ia lf), (17, ia wa), (18, ia fo), (19, lng dn), (20, ia ha), (21, ia pa), (22, ia bl), (110, .inr (7, [.int (Int32.ofNat o), .int (Int32.ofNat s), .ref 111, .ref 112, .ref 113, .ref 114])), (111, wrd ws), (112, ia sgl), (113, ia nbl)])) rfl rfl rfl ?_
          refine RT_step (pc2 := 1) rfl (fun _ _ => rfl) ?_
          refine ow_gf rfl rfl rfl hlen rfl ?_
          refine RT_step (pc2 := 5) rfl (fun _ _ => rfl) ?_
          refine RT_step (pc2 := 6) rfl (fun _ _ => rfl) ?_
          refine rt_bip rfl k8_60 ?_
          refine ow_iv1 (l2 := ((1, tcl n lim a kd pl w le nu tk (Int32.ofNat 0) fp) :: (2, bcl bs) :: [(13, dcl13 P Dn lw cl id gl bo), (14, lng pn), (15, ia ri), (16, ia lf), (17, ia wa), (18, ia fo), (19, lng dn), (20, ia ha), (21, ia pa), (22, ia bl), (110, .inr (7, [.int (Int32.ofNat o), .int (Int32.ofNat s), .ref 111, .ref 112, .ref 113, .ref 114])), (111, wrd ws), (112, ia sgl), (113, ia nbl)])) rfl rfl rfl rfl hlen rfl rfl rfl ((x_isMarkHere (ov_hl hlen) (ov_at rfl (ov_lt hlen (by decide))) hk5 (c := 60) (s := sv) (by decide) sv1 sv2).up (by decide)) rfl ?_
          refine bcF_ne rfl (b01_t g) ?_
          refine RT_step (pc2 := 39) rfl (fun _ _ => rfl) ?_
          refine ow_iv0 (l2 := ((1, tcl n lim a1 kd1 pl1 w1 le1 nu1 tk (Int32.ofNat 0) fp1) :: (2, bcl bs) :: [(13, dcl13 P Dn lw cl id gl bo), (14, lng pn), (15, ia ri), (16, ia lf), (17, ia wa), (18, ia fo), (19, lng dn), (20, ia ha), (21, ia pa), (22, ia bl), (110, .inr (7, [.int (Int32.ofNat o), .int (Int32.ofNat s), .ref 111, .ref 112, .ref 113, .ref 114])), (111, wrd ws), (112, ia sgl), (113, ia nbl)])) rfl rfl rfl rfl hlen rfl rfl rfl ((x1 _ (ov_hl hlen) (ov_at rfl (ov_lt hlen (by decide))) (ov_at rfl (ov_lt hlen (by decide)))).up (by decide)) rfl ?_
          refine RT_step (pc2 := 43) rfl (fun _ _ => rfl) ?_
          refine rt_ico rfl ki_0 ?_
          refine rt_sip rfl k16_999 ?_
          refine ow_iv1 (l2 := ((1, T) :: (2, bcl bs) :: [(13, dcl13 P Dn lw cl id gl bo), (14, lng pn), (15, ia ri), (16, ia lf), (17, ia wa), (18, ia fo), (19, lng dn), (20, ia ha), (21, ia pa), (22, ia bl), (110, .inr (7, [.int (Int32.ofNat o), .int (Int32.ofNat s), .ref 111, .ref 112, .ref 113, .ref 114])), (111, wrd ws), (112, ia sgl), (113, ia nbl)])) rfl rfl rfl rfl hlen rfl rfl rfl ((hx _ (ov_hl hlen) (ov_at rfl (ov_lt hlen (by decide))) (ov_at rfl (ov_lt hlen (by decide)))).up (by decide)) rfl ?_
          refine bcT_ne rfl rfl ?_
          refine rt_ico rfl ki_0 ?_
          exact ow_irt rfl rfl rfl
        · refine FR_st2 (l2 := ((180, M) :: (181, mtl ts) :: [(182, ia nw), (187, lng nz), (202, ia nl)])) rfl rfl rfl ?_
          refine RT_step (pc2 := 1) rfl (fun _ _ => rfl) ?_
          refine rt_bip rfl k8_60 ?_
          refine ow_iv1 (l2 := ((180, mcl (Int32.ofNat 0) (Int32.ofNat 0) n lim a pl (km kd) nm sg (Int32.ofNat 0) qm wd td (posn vs nn o wi tp)) :: (181, mtl ts) :: [(182, ia nw), (187, lng nz), (202, ia nl)])) rfl rfl rfl rfl hlen rfl rfl rfl ((m_isSign (ov_hl hlen) (ov_at rfl (ov_lt hlen (by decide))) k10 (c := 60) (s := sv) (by decide) sv1 sv3).up (by decide)) rfl ?_
          refine bcF_ne rfl (b01_t ((bq 60).trans g)) ?_
          refine RT_step (pc2 := 34) rfl (fun _ _ => rfl) ?_
          refine ow_gf rfl rfl rfl hlen rfl ?_
          refine RT_step (pc2 := 38) rfl (fun _ _ => rfl) ?_
          refine RT_step (pc2 := 39) rfl (fun _ _ => rfl) ?_
          refine ow_iv0 (l2 := ((180, mcl (Int32.ofNat 0) (Int32.ofNat 0) n lim a1 pl1 (km kd1) nm1 sg1 (Int32.ofNat 0) qm1 wd1 td (posn vs nn o wi tp)) :: (181, mtl ts) :: [(182, ia nw), (187, lng nz), (202, ia nl)])) rfl rfl rfl rfl hlen rfl rfl rfl ((m1 _ (ov_hl hlen) (ov_at rfl (ov_lt hlen (by decide))) (ov_at rfl (ov_lt hlen (by decide)))).up (by decide)) rfl ?_
          refine RT_step (pc2 := 43) rfl (fun _ _ => rfl) ?_
          refine rt_ico rfl ki_0 ?_
          refine rt_sip rfl k16_999 ?_
          refine ow_iv1 (l2 := ((180, M) :: (181, mtl ts) :: [(182, ia nw), (187, lng nz), (202, ia nl)])) rfl rfl rfl rfl hlen rfl rfl rfl ((hm _ (ov_hl hlen) (ov_at rfl (ov_lt hlen (by decide))) (ov_at rfl (ov_lt hlen (by decide)))).up (by decide)) rfl ?_
          refine bcT_ne rfl rfl ?_
          refine rt_ico rfl ki_0 ?_
          exact ow_irt rfl rfl rfl
      · refine ⟨fun H hlen => ?_, fun H hlen => ?_⟩
        · refine FR_st2 (l2 := ((1, T) :: (2, bcl bs) :: [(13, dcl13 P Dn lw cl id gl bo), (14, lng pn), (15, ia ri), (16, ia lf), (17, ia wa), (18, ia fo), (19, lng dn), (20, ia ha), (21, ia pa), (22, ia bl), (110, .inr (7, [.int (Int32.ofNat o), .int (Int32.ofNat s), .ref 111, .ref 112, .ref 113, .ref 114])), (111, wrd ws), (112, ia sgl), (113, ia nbl)])) rfl rfl rfl ?_
          refine RT_step (pc2 := 1) rfl (fun _ _ => rfl) ?_
          refine ow_gf rfl rfl rfl hlen rfl ?_
          refine RT_step (pc2 := 5) rfl (fun _ _ => rfl) ?_
          refine RT_step (pc2 := 6) rfl (fun _ _ => rfl) ?_
          refine rt_bip rfl k8_60 ?_
          refine ow_iv1 (l2 := ((1, tcl n lim a kd pl w le nu tk (Int32.ofNat 0) fp) :: (2, bcl bs) :: [(13, dcl13 P Dn lw cl id gl bo), (14, lng pn), (15, ia ri), (16, ia lf), (17, ia wa), (18, ia fo), (19, lng dn), (20, ia ha), (21, ia pa), (22, ia bl), (110, .inr (7, [.int (Int32.ofNat o), .int (Int32.ofNat s), .ref 111, .ref 112, .ref 113, .ref 114])), (111, wrd ws), (112, ia sgl), (113, ia nbl)])) rfl rfl rfl rfl hlen rfl rfl rfl ((x_isMarkHere (ov_hl hlen) (ov_at rfl (ov_lt hlen (by decide))) hk5 (c := 60) (s := sv) (by decide) sv1 sv2).up (by decide)) rfl ?_
          refine bcT_ne rfl (b01_f g1) ?_
          refine RT_step (pc2 := 15) rfl (fun _ _ => rfl) ?_
          refine rt_bip rfl k8_61 ?_
          refine ow_iv1 (l2 := ((1, tcl n lim a kd pl w le nu tk (Int32.ofNat 0) fp) :: (2, bcl bs) :: [(13, dcl13 P Dn lw cl id gl bo), (14, lng pn), (15, ia ri), (16, ia lf), (17, ia wa), (18, ia fo), (19, lng dn), (20, ia ha), (21, ia pa), (22, ia bl), (110, .inr (7, [.int (Int32.ofNat o), .int (Int32.ofNat s), .ref 111, .ref 112, .ref 113, .ref 114])), (111, wrd ws), (112, ia sgl), (113, ia nbl)])) rfl rfl rfl rfl hlen rfl rfl rfl ((x_isMarkHere (ov_hl hlen) (ov_at rfl (ov_lt hlen (by decide))) hk5 (c := 61) (s := sv) (by decide) sv1 sv2).up (by decide)) rfl ?_
          refine bcF_ne rfl (b01_t g) ?_
          refine RT_step (pc2 := 39) rfl (fun _ _ => rfl) ?_
          refine ow_iv0 (l2 := ((1, tcl n lim a1 kd1 pl1 w1 le1 nu1 tk (Int32.ofNat 0) fp1) :: (2, bcl bs) :: [(13, dcl13 P Dn lw cl id gl bo), (14, lng pn), (15, ia ri), (16, ia lf), (17, ia wa), (18, ia fo), (19, lng dn), (20, ia ha), (21, ia pa), (22, ia bl), (110, .inr (7, [.int (Int32.ofNat o), .int (Int32.ofNat s), .ref 111, .ref 112, .ref 113, .ref 114])), (111, wrd ws), (112, ia sgl), (113, ia nbl)])) rfl rfl rfl rfl hlen rfl rfl rfl ((x1 _ (ov_hl hlen) (ov_at rfl (ov_lt hlen (by decide))) (ov_at rfl (ov_lt hlen (by decide)))).up (by decide)) rfl ?_
          refine RT_step (pc2 := 43) rfl (fun _ _ => rfl) ?_
          refine rt_ico rfl ki_0 ?_
          refine rt_sip rfl k16_999 ?_
          refine ow_iv1 (l2 := ((1, T) :: (2, bcl bs) :: [(13, dcl13 P Dn lw cl id gl bo), (14, lng pn), (15, ia ri), (16, ia lf), (17, ia wa), (18, ia fo), (19, lng dn), (20, ia ha), (21, ia pa), (22, ia bl), (110, .inr (7, [.int (Int32.ofNat o), .int (Int32.ofNat s), .ref 111, .ref 112, .ref 113, .ref 114])), (111, wrd ws), (112, ia sgl), (113, ia nbl)])) rfl rfl rfl rfl hlen rfl rfl rfl ((hx _ (ov_hl hlen) (ov_at rfl (ov_lt hlen (by decide))) (ov_at rfl (ov_lt hlen (by decide)))).up (by decide)) rfl ?_
          refine bcT_ne rfl rfl ?_
          refine rt_ico rfl ki_0 ?_
          exact ow_irt rfl rfl rfl
        · refine FR_st2 (l2 := ((180, M) :: (181, mtl ts) :: [(182, ia nw), (187, lng nz), (202, ia nl)])) rfl rfl rfl ?_
          refine RT_step (pc2 := 1) rfl (fun _ _ => rfl) ?_
          refine rt_bip rfl k8_60 ?_
          refine ow_iv1 (l2 := ((180, mcl (Int32.ofNat 0) (Int32.ofNat 0) n lim a pl (km kd) nm sg (Int32.ofNat 0) qm wd td (posn vs nn o wi tp)) :: (181, mtl ts) :: [(182, ia nw), (187, lng nz), (202, ia nl)])) rfl rfl rfl rfl hlen rfl rfl rfl ((m_isSign (ov_hl hlen) (ov_at rfl (ov_lt hlen (by decide))) k10 (c := 60) (s := sv) (by decide) sv1 sv3).up (by decide)) rfl ?_
          refine bcT_ne rfl (b01_f ((bq 60).trans g1)) ?_
          refine RT_step (pc2 := 10) rfl (fun _ _ => rfl) ?_
          refine rt_bip rfl k8_61 ?_
          refine ow_iv1 (l2 := ((180, mcl (Int32.ofNat 0) (Int32.ofNat 0) n lim a pl (km kd) nm sg (Int32.ofNat 0) qm wd td (posn vs nn o wi tp)) :: (181, mtl ts) :: [(182, ia nw), (187, lng nz), (202, ia nl)])) rfl rfl rfl rfl hlen rfl rfl rfl ((m_isSign (ov_hl hlen) (ov_at rfl (ov_lt hlen (by decide))) k10 (c := 61) (s := sv) (by decide) sv1 sv3).up (by decide)) rfl ?_
          refine bcF_ne rfl (b01_t ((bq 61).trans g)) ?_
          refine RT_step (pc2 := 34) rfl (fun _ _ => rfl) ?_
          refine ow_gf rfl rfl rfl hlen rfl ?_
          refine RT_step (pc2 := 38) rfl (fun _ _ => rfl) ?_
          refine RT_step (pc2 := 39) rfl (fun _ _ => rfl) ?_
          refine ow_iv0 (l2 := ((180, mcl (Int32.ofNat 0) (Int32.ofNat 0) n lim a1 pl1 (km kd1) nm1 sg1 (Int32.ofNat 0) qm1 wd1 td (posn vs nn o wi tp)) :: (181, mtl ts) :: [(182, ia nw), (187, lng nz), (202, ia nl)])) rfl rfl rfl rfl hlen rfl rfl rfl ((m1 _ (ov_hl hlen) (ov_at rfl (ov_lt hlen (by decide))) (ov_at rfl (ov_lt hlen (by decide)))).up (by decide)) rfl ?_
          refine RT_step (pc2 := 43) rfl (fun _ _ => rfl) ?_
          refine rt_ico rfl ki_0 ?_
          refine rt_sip rfl k16_999 ?_
          refine ow_iv1 (l2 := ((180, M) :: (181, mtl ts) :: [(182, ia nw), (187, lng nz), (202, ia nl)])) rfl rfl rfl rfl hlen rfl rfl rfl ((hm _ (ov_hl hlen) (ov_at rfl (ov_lt hlen (by decide))) (ov_at rfl (ov_lt hlen (by decide)))).up (by decide)) rfl ?_
          refine bcT_ne rfl rfl ?_
          refine rt_ico rfl ki_0 ?_
          exact ow_irt rfl rfl rfl
      · refine ⟨fun H hlen => ?_, fun H hlen => ?_⟩
        · refine FR_st2 (l2 := ((1, T) :: (2, bcl bs) :: [(13, dcl13 P Dn lw cl id gl bo), (14, lng pn), (15, ia ri), (16, ia lf), (17, ia wa), (18, ia fo), (19, lng dn), (20, ia ha), (21, ia pa), (22, ia bl), (110, .inr (7, [.int (Int32.ofNat o), .int (Int32.ofNat s), .ref 111, .ref 112, .ref 113, .ref 114])), (111, wrd ws), (112, ia sgl), (113, ia nbl)])) rfl rfl rfl ?_
          refine RT_step (pc2 := 1) rfl (fun _ _ => rfl) ?_
          refine ow_gf rfl rfl rfl hlen rfl ?_
          refine RT_step (pc2 := 5) rfl (fun _ _ => rfl) ?_
          refine RT_step (pc2 := 6) rfl (fun _ _ => rfl) ?_
          refine rt_bip rfl k8_60 ?_
          refine ow_iv1 (l2 := ((1, tcl n lim a kd pl w le nu tk (Int32.ofNat 0) fp) :: (2, bcl bs) :: [(13, dcl13 P Dn lw cl id gl bo), (14, lng pn), (15, ia ri), (16, ia lf), (17, ia wa), (18, ia fo), (19, lng dn), (20, ia ha), (21, ia pa), (22, ia bl), (110, .inr (7, [.int (Int32.ofNat o), .int (Int32.ofNat s), .ref 111, .ref 112, .ref 113, .ref 114])), (111, wrd ws), (112, ia sgl), (113, ia nbl)])) rfl rfl rfl rfl hlen rfl rfl rfl ((x_isMarkHere (ov_hl hlen) (ov_at rfl (ov_lt hlen (by decide))) hk5 (c := 60) (s := sv) (by decide) sv1 sv2).up (by decide)) rfl ?_
          refine bcT_ne rfl (b01_f g1) ?_
          refine RT_step (pc2 := 15) rfl (fun _ _ => rfl) ?_
          refine rt_bip rfl k8_61 ?_
          refine ow_iv1 (l2 := ((1, tcl n lim a kd pl w le nu tk (Int32.ofNat 0) fp) :: (2, bcl bs) :: [(13, dcl13 P Dn lw cl id gl bo), (14, lng pn), (15, ia ri), (16, ia lf), (17, ia wa), (18, ia fo), (19, lng dn), (20, ia ha), (21, ia pa), (22, ia bl), (110, .inr (7, [.int (Int32.ofNat o), .int (Int32.ofNat s), .ref 111, .ref 112, .ref 113, .ref 114])), (111, wrd ws), (112, ia sgl), (113, ia nbl)])) rfl rfl rfl rfl hlen rfl rfl rfl ((x_isMarkHere (ov_hl hlen) (ov_at rfl (ov_lt hlen (by decide))) hk5 (c := 61) (s := sv) (by decide) sv1 sv2).up (by decide)) rfl ?_
          refine bcT_ne rfl (b01_f g2) ?_
          refine RT_step (pc2 := 24) rfl (fun _ _ => rfl) ?_
          refine rt_bip rfl k8_62 ?_
          refine ow_iv1 (l2 := ((1, tcl n lim a kd pl w le nu tk (Int32.ofNat 0) fp) :: (2, bcl bs) :: [(13, dcl13 P Dn lw cl id gl bo), (14, lng pn), (15, ia ri), (16, ia lf), (17, ia wa), (18, ia fo), (19, lng dn), (20, ia ha), (21, ia pa), (22, ia bl), (110, .inr (7, [.int (Int32.ofNat o), .int (Int32.ofNat s), .ref 111, .ref 112, .ref 113, .ref 114])), (111, wrd ws), (112, ia sgl), (113, ia nbl)])) rfl rfl rfl rfl hlen rfl rfl rfl ((x_isMarkHere (ov_hl hlen) (ov_at rfl (ov_lt hlen (by decide))) hk5 (c := 62) (s := sv) (by decide) sv1 sv2).up (by decide)) rfl ?_
          refine bcF_ne rfl (b01_t g) ?_
          refine RT_step (pc2 := 39) rfl (fun _ _ => rfl) ?_
          refine ow_iv0 (l2 := ((1, tcl n lim a1 kd1 pl1 w1 le1 nu1 tk (Int32.ofNat 0) fp1) :: (2, bcl bs) :: [(13, dcl13 P Dn lw cl id gl bo), (14, lng pn), (15, ia ri), (16, ia lf), (17, ia wa), (18, ia fo), (19, lng dn), (20, ia ha), (21, ia pa), (22, ia bl), (110, .inr (7, [.int (Int32.ofNat o), .int (Int32.ofNat s), .ref 111, .ref 112, .ref 113, .ref 114])), (111, wrd ws), (112, ia sgl), (113, ia nbl)])) rfl rfl rfl rfl hlen rfl rfl rfl ((x1 _ (ov_hl hlen) (ov_at rfl (ov_lt hlen (by decide))) (ov_at rfl (ov_lt hlen (by decide)))).up (by decide)) rfl ?_
          refine RT_step (pc2 := 43) rfl (fun _ _ => rfl) ?_
          refine rt_ico rfl ki_0 ?_
          refine rt_sip rfl k16_999 ?_
          refine ow_iv1 (l2 := ((1, T) :: (2, bcl bs) :: [(13, dcl13 P Dn lw cl id gl bo), (14, lng pn), (15, ia ri), (16, ia lf), (17, ia wa), (18, ia fo), (19, lng dn), (20, ia ha), (21, ia pa), (22, ia bl), (110, .inr (7, [.int (Int32.ofNat o), .int (Int32.ofNat s), .ref 111, .ref 112, .ref 113, .ref 114])), (111, wrd ws), (112, ia sgl), (113, ia nbl)])) rfl rfl rfl rfl hlen rfl rfl rfl ((hx _ (ov_hl hlen) (ov_at rfl (ov_lt hlen (by decide))) (ov_at rfl (ov_lt hlen (by decide)))).up (by decide)) rfl ?_
          refine bcT_ne rfl rfl ?_
          refine rt_ico rfl ki_0 ?_
          exact ow_irt rfl rfl rfl
        · refine FR_st2 (l2 := ((180, M) :: (181, mtl ts) :: [(182, ia nw), (187, lng nz), (202, ia nl)])) rfl rfl rfl ?_
          refine RT_step (pc2 := 1) rfl (fun _ _ => rfl) ?_
          refine rt_bip rfl k8_60 ?_
          refine ow_iv1 (l2 := ((180, mcl (Int32.ofNat 0) (Int32.ofNat 0) n lim a pl (km kd) nm sg (Int32.ofNat 0) qm wd td (posn vs nn o wi tp)) :: (181, mtl ts) :: [(182, ia nw), (187, lng nz), (202, ia nl)])) rfl rfl rfl rfl hlen rfl rfl rfl ((m_isSign (ov_hl hlen) (ov_at rfl (ov_lt hlen (by decide))) k10 (c := 60) (s := sv) (by decide) sv1 sv3).up (by decide)) rfl ?_
          refine bcT_ne rfl (b01_f ((bq 60).trans g1)) ?_
          refine RT_step (pc2 := 10) rfl (fun _ _ => rfl) ?_
          refine rt_bip rfl k8_61 ?_
          refine ow_iv1 (l2 := ((180, mcl (Int32.ofNat 0) (Int32.ofNat 0) n lim a pl (km kd) nm sg (Int32.ofNat 0) qm wd td (posn vs nn o wi tp)) :: (181, mtl ts) :: [(182, ia nw), (187, lng nz), (202, ia nl)])) rfl rfl rfl rfl hlen rfl rfl rfl ((m_isSign (ov_hl hlen) (ov_at rfl (ov_lt hlen (by decide))) k10 (c := 61) (s := sv) (by decide) sv1 sv3).up (by decide)) rfl ?_
          refine bcT_ne rfl (b01_f ((bq 61).trans g2)) ?_
          refine RT_step (pc2 := 19) rfl (fun _ _ => rfl) ?_
          refine rt_bip rfl k8_62 ?_
          refine ow_iv1 (l2 := ((180, mcl (Int32.ofNat 0) (Int32.ofNat 0) n lim a pl (km kd) nm sg (Int32.ofNat 0) qm wd td (posn vs nn o wi tp)) :: (181, mtl ts) :: [(182, ia nw), (187, lng nz), (202, ia nl)])) rfl rfl rfl rfl hlen rfl rfl rfl ((m_isSign (ov_hl hlen) (ov_at rfl (ov_lt hlen (by decide))) k10 (c := 62) (s := sv) (by decide) sv1 sv3).up (by decide)) rfl ?_
          refine bcF_ne rfl (b01_t ((bq 62).trans g)) ?_
          refine RT_step (pc2 := 34) rfl (fun _ _ => rfl) ?_
          refine ow_gf rfl rfl rfl hlen rfl ?_
          refine RT_step (pc2 := 38) rfl (fun _ _ => rfl) ?_
          refine RT_step (pc2 := 39) rfl (fun _ _ => rfl) ?_
          refine ow_iv0 (l2 := ((180, mcl (Int32.ofNat 0) (Int32.ofNat 0) n lim a1 pl1 (km kd1) nm1 sg1 (Int32.ofNat 0) qm1 wd1 td (posn vs nn o wi tp)) :: (181, mtl ts) :: [(182, ia nw), (187, lng nz), (202, ia nl)])) rfl rfl rfl rfl hlen rfl rfl rfl ((m1 _ (ov_hl hlen) (ov_at rfl (ov_lt hlen (by decide))) (ov_at rfl (ov_lt hlen (by decide)))).up (by decide)) rfl ?_
          refine RT_step (pc2 := 43) rfl (fun _ _ => rfl) ?_
          refine rt_ico rfl ki_0 ?_
          refine rt_sip rfl k16_999 ?_
          refine ow_iv1 (l2 := ((180, M) :: (181, mtl ts) :: [(182, ia nw), (187, lng nz), (202, ia nl)])) rfl rfl rfl rfl hlen rfl rfl rfl ((hm _ (ov_hl hlen) (ov_at rfl (ov_lt hlen (by decide))) (ov_at rfl (ov_lt hlen (by decide)))).up (by decide)) rfl ?_
          refine bcT_ne rfl rfl ?_
          refine rt_ico rfl ki_0 ?_
          exact ow_irt rfl rfl rfl
    · obtain ⟨a3, kd3, pl3, w3, le3, nu3, fp3, nm3, sg3, qm3, wd3, rfl, rfl, t3⟩ := c3
      obtain ⟨s2, ws2, sl2, nb2, sx2, hadd⟩ := sx_add110 sx hw0 nu (Int32.ofNat v)
      refine Or.inr ⟨(Int32.ofNat v), (Int32.ofNat v), tcl n lim a3 kd3 pl3 w3 le3 nu3 (Int32.ofNat v) (Int32.ofNat 0) fp3, mcl (Int32.ofNat 0) (Int32.ofNat 0) n lim a3 pl3 (km kd3) nm3 sg3 (Int32.ofNat 0) qm3 wd3 (Int32.ofNat v) (posn vs (nn + 1) o wi nn), s2, ws2, sl2, nb2, ((((nl.set (4 * nn) (Int32.ofNat (50 + j0))).set (4 * nn + 1) (Int32.ofNat 0)).set (4 * nn + 2) (Int32.ofNat v)).set (4 * nn + 3) sg), tf_td t3, sx2, (by simp only [List.length_set]; exact ln), ?_⟩
      rcases sgn3 cc with g | ⟨g1, g⟩ | ⟨g1, g2, g⟩
      · refine ⟨fun H hlen => ?_, fun H hlen => ?_⟩
        · refine FR_st2 (l2 := ((1, tcl n lim a3 kd3 pl3 w3 le3 nu3 (Int32.ofNat v) (Int32.ofNat 0) fp3) :: (2, bcl bs) :: [(13, dcl13 P Dn lw cl id gl bo), (14, lng pn), (15, ia ri), (16, ia lf), (17, ia wa), (18, ia fo), (19, lng dn), (20, ia ha), (21, ia pa), (22, ia bl), (110, .inr (7, [.int (Int32.ofNat o), .int (Int32.ofNat s2), .ref 111, .ref 112, .ref 113, .ref 114])), (111, wrd ws2), (112, ia sl2), (113, ia nb2)])) rfl rfl rfl ?_
          refine RT_step (pc2 := 1) rfl (fun _ _ => rfl) ?_
          refine ow_gf rfl rfl rfl hlen rfl ?_
          refine RT_step (pc2 := 5) rfl (fun _ _ => rfl) ?_
          refine RT_step (pc2 := 6) rfl (fun _ _ => rfl) ?_
          refine rt_bip rfl k8_60 ?_
          refine ow_iv1 (l2 := ((1, tcl n lim a kd pl w le nu tk (Int32.ofNat 0) fp) :: (2, bcl bs) :: [(13, dcl13 P Dn lw cl id gl bo), (14, lng pn), (15, ia ri), (16, ia lf), (17, ia wa), (18, ia fo), (19, lng dn), (20, ia ha), (21, ia pa), (22, ia bl), (110, .inr (7, [.int (Int32.ofNat o), .int (Int32.ofNat s), .ref 111, .ref 112, .ref 113, .ref 114])), (111, wrd ws), (112, ia sgl), (113, ia nbl)])) rfl rfl rfl rfl hlen rfl rfl rfl ((x_isMarkHere (ov_hl hlen) (ov_at rfl (ov_lt hlen (by decide))) hk5 (c := 60) (s := sv) (by decide) sv1 sv2).up (by decide)) rfl ?_
          refine bcF_ne rfl (b01_t g) ?_
          refine RT_step (pc2 := 39) rfl (fun _ _ => rfl) ?_
          refine ow_iv0 (l2 := ((1, tcl n lim a1 kd1 pl1 w1 le1 nu1 tk (Int32.ofNat 0) fp1) :: (2, bcl bs) :: [(13, dcl13 P Dn lw cl id gl bo), (14, lng pn), (15, ia ri), (16, ia lf), (17, ia wa), (18, ia fo), (19, lng dn), (20, ia ha), (21, ia pa), (22, ia bl), (110, .inr (7, [.int (Int32.ofNat o), .int (Int32.ofNat s), .ref 111, .ref 112, .ref 113, .ref 114])), (111, wrd ws), (112, ia sgl), (113, ia nbl)])) rfl rfl rfl rfl hlen rfl rfl rfl ((x1 _ (ov_hl hlen) (ov_at rfl (ov_lt hlen (by decide))) (ov_at rfl (ov_lt hlen (by decide)))).up (by decide)) rfl ?_
          refine RT_step (pc2 := 43) rfl (fun _ _ => rfl) ?_
          refine rt_ico rfl ki_0 ?_
          refine rt_sip rfl k16_999 ?_
          refine ow_iv1 (l2 := ((1, tcl n lim a3 kd3 pl3 w3 le3 nu3 (Int32.ofNat v) (Int32.ofNat 0) fp3) :: (2, bcl bs) :: [(13, dcl13 P Dn lw cl id gl bo), (14, lng pn), (15, ia ri), (16, ia lf), (17, ia wa), (18, ia fo), (19, lng dn), (20, ia ha), (21, ia pa), (22, ia bl), (110, .inr (7, [.int (Int32.ofNat o), .int (Int32.ofNat s), .ref 111, .ref 112, .ref 113, .ref 114])), (111, wrd ws), (112, ia sgl), (113, ia nbl)])) rfl rfl rfl rfl hlen rfl rfl rfl ((hx _ (ov_hl hlen) (ov_at rfl (ov_lt hlen (by decide))) (ov_at rfl (ov_lt hlen (by decide)))).up (by decide)) rfl ?_
          refine bcF_ne rfl (by decide) ?_
          refine RT_step (pc2 := 56) rfl (fun _ _ => rfl) ?_
          refine RT_step (pc2 := 57) rfl (fun _ _ => rfl) ?_
          refine RT_step (pc2 := 58) rfl (fun _ _ => rfl) ?_
          refine RT_step (pc2 := 59) rfl (fun _ _ => rfl) ?_
          refine ow_gf rfl rfl rfl hlen rfl ?_
          refine ow_iv0 (l2 := ((1, tcl n lim a3 kd3 pl3 w3 le3 nu3 (Int32.ofNat v) (Int32.ofNat 0) fp3) :: (2, bcl bs) :: [(13, dcl13 P Dn lw cl id gl bo), (14, lng pn), (15, ia ri), (16, ia lf), (17, ia wa), (18, ia fo), (19, lng dn), (20, ia ha), (21, ia pa), (22, ia bl), (110, .inr (7, [.int (Int32.ofNat o), .int (Int32.ofNat s2), .ref 111, .ref 112, .ref 113, .ref 114])), (111, wrd ws2), (112, ia sl2), (113, ia nb2)])) rfl rfl rfl rfl hlen rfl rfl rfl ((hadd _ _ (ov_hl hlen) (ov_at rfl (ov_lt hlen (by decide))) (ov_at rfl (ov_lt hlen (by decide))) (ov_at rfl (ov_lt hlen (by decide))) (ov_at rfl (ov_lt hlen (by decide)))).up (by decide)) rfl ?_
          refine rt_ico rfl ki_1 ?_
          exact ow_irt rfl rfl rfl
        · refine FR_st2 (l2 := ((180, mcl (Int32.ofNat 0) (Int32.ofNat 0) n lim a3 pl3 (km kd3) nm3 sg3 (Int32.ofNat 0) qm3 wd3 (Int32.ofNat v) (posn vs (nn + 1) o wi nn)) :: (181, mtl ts) :: [(182, ia nw), (187, lng nz), (202, ia ((((nl.set (4 * nn) (Int32.ofNat (50 + j0))).set (4 * nn + 1) (Int32.ofNat 0)).set (4 * nn + 2) (Int32.ofNat v)).set (4 * nn + 3) sg))])) rfl rfl rfl ?_
          refine RT_step (pc2 := 1) rfl (fun _ _ => rfl) ?_
          refine rt_bip rfl k8_60 ?_
          refine ow_iv1 (l2 := ((180, mcl (Int32.ofNat 0) (Int32.ofNat 0) n lim a pl (km kd) nm sg (Int32.ofNat 0) qm wd td (posn vs nn o wi tp)) :: (181, mtl ts) :: [(182, ia nw), (187, lng nz), (202, ia nl)])) rfl rfl rfl rfl hlen rfl rfl rfl ((m_isSign (ov_hl hlen) (ov_at rfl (ov_lt hlen (by decide))) k10 (c := 60) (s := sv) (by decide) sv1 sv3).up (by decide)) rfl ?_
          refine bcF_ne rfl (b01_t ((bq 60).trans g)) ?_
          refine RT_step (pc2 := 34) rfl (fun _ _ => rfl) ?_
          refine ow_gf rfl rfl rfl hlen rfl ?_
          refine RT_step (pc2 := 38) rfl (fun _ _ => rfl) ?_
          refine RT_step (pc2 := 39) rfl (fun _ _ => rfl) ?_
          refine ow_iv0 (l2 := ((180, mcl (Int32.ofNat 0) (Int32.ofNat 0) n lim a1 pl1 (km kd1) nm1 sg1 (Int32.ofNat 0) qm1 wd1 td (posn vs nn o wi tp)) :: (181, mtl ts) :: [(182, ia nw), (187, lng nz), (202, ia nl)])) rfl rfl rfl rfl hlen rfl rfl rfl ((m1 _ (ov_hl hlen) (ov_at rfl (ov_lt hlen (by decide))) (ov_at rfl (ov_lt hlen (by decide)))).up (by decide)) rfl ?_
          refine RT_step (pc2 := 43) rfl (fun _ _ => rfl) ?_
          refine rt_ico rfl ki_0 ?_
          refine rt_sip rfl k16_999 ?_
          refine ow_iv1 (l2 := ((180, mcl (Int32.ofNat 0) (Int32.ofNat 0) n lim a3 pl3 (km kd3) nm3 sg3 (Int32.ofNat 0) qm3 wd3 (Int32.ofNat v) (posn vs nn o wi tp)) :: (181, mtl ts) :: [(182, ia nw), (187, lng nz), (202, ia nl)])) rfl rfl rfl rfl hlen rfl rfl rfl ((hm _ (ov_hl hlen) (ov_at rfl (ov_lt hlen (by decide))) (ov_at rfl (ov_lt hlen (by decide)))).up (by decide)) rfl ?_
          refine bcF_ne rfl (by decide) ?_
          refine RT_step (pc2 := 56) rfl (fun _ _ => rfl) ?_
          refine RT_step (pc2 := 57) rfl (fun _ _ => rfl) ?_
          refine rt_bip rfl k8_50 ?_
          refine RT_step (pc2 := 60) rfl (fun _ _ => rfl) ?_
          refine ba_iadd rfl ?_
          rw [n_add]
          refine rt_ico rfl ki_0 ?_
          refine RT_step (pc2 := 63) rfl (fun _ _ => rfl) ?_
          refine ow_gf rfl rfl rfl hlen rfl ?_
          refine RT_step (pc2 := 67) rfl (fun _ _ => rfl) ?_
          refine ow_iv1 (l2 := ((180, mcl (Int32.ofNat 0) (Int32.ofNat 0) n lim a3 pl3 (km kd3) nm3 sg3 (Int32.ofNat 0) qm3 wd3 (Int32.ofNat v) (posn vs (nn + 1) o wi tp)) :: (181, mtl ts) :: [(182, ia nw), (187, lng nz), (202, ia ((((nl.set (4 * nn) (Int32.ofNat (50 + j0))).set (4 * nn + 1) (Int32.ofNat 0)).set (4 * nn + 2) (Int32.ofNat v)).set (4 * nn + 3) sg))])) rfl rfl rfl rfl hlen rfl rfl rfl ((m_says (ov_hl hlen) (ov_at rfl (ov_lt hlen (by decide))) (ov_at rfl (ov_lt hlen (by decide))) ln hd).up (by decide)) rfl ?_
          refine ow_pf (l2 := ((180, mcl (Int32.ofNat 0) (Int32.ofNat 0) n lim a3 pl3 (km kd3) nm3 sg3 (Int32.ofNat 0) qm3 wd3 (Int32.ofNat v) (posn vs (nn + 1) o wi nn)) :: (181, mtl ts) :: [(182, ia nw), (187, lng nz), (202, ia ((((nl.set (4 * nn) (Int32.ofNat (50 + j0))).set (4 * nn + 1) (Int32.ofNat 0)).set (4 * nn + 2) (Int32.ofNat v)).set (4 * nn + 3) sg))])) rfl rfl rfl rfl rfl hlen rfl rfl ?_
          refine rt_ico rfl ki_1 ?_
          exact ow_irt rfl rfl rfl
      · refine ⟨fun H hlen => ?_, fun H hlen => ?_⟩
        · refine FR_st2 (l2 := ((1, tcl n lim a3 kd3 pl3 w3 le3 nu3 (Int32.ofNat v) (Int32.ofNat 0) fp3) :: (2, bcl bs) :: [(13, dcl13 P Dn lw cl id gl bo), (14, lng pn), (15, ia ri), (16, ia lf), (17, ia wa), (18, ia fo), (19, lng dn), (20, ia ha), (21, ia pa), (22, ia bl), (110, .inr (7, [.int (Int32.ofNat o), .int (Int32.ofNat s2), .ref 111, .ref 112, .ref 113, .ref 114])), (111, wrd ws2), (112, ia sl2), (113, ia nb2)])) rfl rfl rfl ?_
          refine RT_step (pc2 := 1) rfl (fun _ _ => rfl) ?_
          refine ow_gf rfl rfl rfl hlen rfl ?_
          refine RT_step (pc2 := 5) rfl (fun _ _ => rfl) ?_
          refine RT_step (pc2 := 6) rfl (fun _ _ => rfl) ?_
          refine rt_bip rfl k8_60 ?_
          refine ow_iv1 (l2 := ((1, tcl n lim a kd pl w le nu tk (Int32.ofNat 0) fp) :: (2, bcl bs) :: [(13, dcl13 P Dn lw cl id gl bo), (14, lng pn), (15, ia ri), (16, ia lf), (17, ia wa), (18, ia fo), (19, lng dn), (20, ia ha), (21, ia pa), (22, ia bl), (110, .inr (7, [.int (Int32.ofNat o), .int (Int32.ofNat s), .ref 111, .ref 112, .ref 113, .ref 114])), (111, wrd ws), (112, ia sgl), (113, ia nbl)])) rfl rfl rfl rfl hlen rfl rfl rfl ((x_isMarkHere (ov_hl hlen) (ov_at rfl (ov_lt hlen (by decide))) hk5 (c := 60) (s := sv) (by decide) sv1 sv2).up (by decide)) rfl ?_
          refine bcT_ne rfl (b01_f g1) ?_
          refine RT_step (pc2 := 15) rfl (fun _ _ => rfl) ?_
          refine rt_bip rfl k8_61 ?_
          refine ow_iv1 (l2 := ((1, tcl n lim a kd pl w le nu tk (Int32.ofNat 0) fp) :: (2, bcl bs) :: [(13, dcl13 P Dn lw cl id gl bo), (14, lng pn), (15, ia ri), (16, ia lf), (17, ia wa), (18, ia fo), (19, lng dn), (20, ia ha), (21, ia pa), (22, ia bl), (110, .inr (7, [.int (Int32.ofNat o), .int (Int32.ofNat s), .ref 111, .ref 112, .ref 113, .ref 114])), (111, wrd ws), (112, ia sgl), (113, ia nbl)])) rfl rfl rfl rfl hlen rfl rfl rfl ((x_isMarkHere (ov_hl hlen) (ov_at rfl (ov_lt hlen (by decide))) hk5 (c := 61) (s := sv) (by decide) sv1 sv2).up (by decide)) rfl ?_
          refine bcF_ne rfl (b01_t g) ?_
          refine RT_step (pc2 := 39) rfl (fun _ _ => rfl) ?_
          refine ow_iv0 (l2 := ((1, tcl n lim a1 kd1 pl1 w1 le1 nu1 tk (Int32.ofNat 0) fp1) :: (2, bcl bs) :: [(13, dcl13 P Dn lw cl id gl bo), (14, lng pn), (15, ia ri), (16, ia lf), (17, ia wa), (18, ia fo), (19, lng dn), (20, ia ha), (21, ia pa), (22, ia bl), (110, .inr (7, [.int (Int32.ofNat o), .int (Int32.ofNat s), .ref 111, .ref 112, .ref 113, .ref 114])), (111, wrd ws), (112, ia sgl), (113, ia nbl)])) rfl rfl rfl rfl hlen rfl rfl rfl ((x1 _ (ov_hl hlen) (ov_at rfl (ov_lt hlen (by decide))) (ov_at rfl (ov_lt hlen (by decide)))).up (by decide)) rfl ?_
          refine RT_step (pc2 := 43) rfl (fun _ _ => rfl) ?_
          refine rt_ico rfl ki_0 ?_
          refine rt_sip rfl k16_999 ?_
          refine ow_iv1 (l2 := ((1, tcl n lim a3 kd3 pl3 w3 le3 nu3 (Int32.ofNat v) (Int32.ofNat 0) fp3) :: (2, bcl bs) :: [(13, dcl13 P Dn lw cl id gl bo), (14, lng pn), (15, ia ri), (16, ia lf), (17, ia wa), (18, ia fo), (19, lng dn), (20, ia ha), (21, ia pa), (22, ia bl), (110, .inr (7, [.int (Int32.ofNat o), .int (Int32.ofNat s), .ref 111, .ref 112, .ref 113, .ref 114])), (111, wrd ws), (112, ia sgl), (113, ia nbl)])) rfl rfl rfl rfl hlen rfl rfl rfl ((hx _ (ov_hl hlen) (ov_at rfl (ov_lt hlen (by decide))) (ov_at rfl (ov_lt hlen (by decide)))).up (by decide)) rfl ?_
          refine bcF_ne rfl (by decide) ?_
          refine RT_step (pc2 := 56) rfl (fun _ _ => rfl) ?_
          refine RT_step (pc2 := 57) rfl (fun _ _ => rfl) ?_
          refine RT_step (pc2 := 58) rfl (fun _ _ => rfl) ?_
          refine RT_step (pc2 := 59) rfl (fun _ _ => rfl) ?_
          refine ow_gf rfl rfl rfl hlen rfl ?_
          refine ow_iv0 (l2 := ((1, tcl n lim a3 kd3 pl3 w3 le3 nu3 (Int32.ofNat v) (Int32.ofNat 0) fp3) :: (2, bcl bs) :: [(13, dcl13 P Dn lw cl id gl bo), (14, lng pn), (15, ia ri), (16, ia lf), (17, ia wa), (18, ia fo), (19, lng dn), (20, ia ha), (21, ia pa), (22, ia bl), (110, .inr (7, [.int (Int32.ofNat o), .int (Int32.ofNat s2), .ref 111, .ref 112, .ref 113, .ref 114])), (111, wrd ws2), (112, ia sl2), (113, ia nb2)])) rfl rfl rfl rfl hlen rfl rfl rfl ((hadd _ _ (ov_hl hlen) (ov_at rfl (ov_lt hlen (by decide))) (ov_at rfl (ov_lt hlen (by decide))) (ov_at rfl (ov_lt hlen (by decide))) (ov_at rfl (ov_lt hlen (by decide)))).up (by decide)) rfl ?_
          refine rt_ico rfl ki_1 ?_
          exact ow_irt rfl rfl rfl
        · refine FR_st2 (l2 := ((180, mcl (Int32.ofNat 0) (Int32.ofNat 0) n lim a3 pl3 (km kd3) nm3 sg3 (Int32.ofNat 0) qm3 wd3 (Int32.ofNat v) (posn vs (nn + 1) o wi nn)) :: (181, mtl ts) :: [(182, ia nw), (187, lng nz), (202, ia ((((nl.set (4 * nn) (Int32.ofNat (50 + j0))).set (4 * nn + 1) (Int32.ofNat 0)).set (4 * nn + 2) (Int32.ofNat v)).set (4 * nn + 3) sg))])) rfl rfl rfl ?_
          refine RT_step (pc2 := 1) rfl (fun _ _ => rfl) ?_
          refine rt_bip rfl k8_60 ?_
          refine ow_iv1 (l2 := ((180, mcl (Int32.ofNat 0) (Int32.ofNat 0) n lim a pl (km kd) nm sg (Int32.ofNat 0) qm wd td (posn vs nn o wi tp)) :: (181, mtl ts) :: [(182, ia nw), (187, lng nz), (202, ia nl)])) rfl rfl rfl rfl hlen rfl rfl rfl ((m_isSign (ov_hl hlen) (ov_at rfl (ov_lt hlen (by decide))) k10 (c := 60) (s := sv) (by decide) sv1 sv3).up (by decide)) rfl ?_
          refine bcT_ne rfl (b01_f ((bq 60).trans g1)) ?_
          refine RT_step (pc2 := 10) rfl (fun _ _ => rfl) ?_
          refine rt_bip rfl k8_61 ?_
          refine ow_iv1 (l2 := ((180, mcl (Int32.ofNat 0) (Int32.ofNat 0) n lim a pl (km kd) nm sg (Int32.ofNat 0) qm wd td (posn vs nn o wi tp)) :: (181, mtl ts) :: [(182, ia nw), (187, lng nz), (202, ia nl)])) rfl rfl rfl rfl hlen rfl rfl rfl ((m_isSign (ov_hl hlen) (ov_at rfl (ov_lt hlen (by decide))) k10 (c := 61) (s := sv) (by decide) sv1 sv3).up (by decide)) rfl ?_
          refine bcF_ne rfl (b01_t ((bq 61).trans g)) ?_
          refine RT_step (pc2 := 34) rfl (fun _ _ => rfl) ?_
          refine ow_gf rfl rfl rfl hlen rfl ?_
          refine RT_step (pc2 := 38) rfl (fun _ _ => rfl) ?_
          refine RT_step (pc2 := 39) rfl (fun _ _ => rfl) ?_
          refine ow_iv0 (l2 := ((180, mcl (Int32.ofNat 0) (Int32.ofNat 0) n lim a1 pl1 (km kd1) nm1 sg1 (Int32.ofNat 0) qm1 wd1 td (posn vs nn o wi tp)) :: (181, mtl ts) :: [(182, ia nw), (187, lng nz), (202, ia nl)])) rfl rfl rfl rfl hlen rfl rfl rfl ((m1 _ (ov_hl hlen) (ov_at rfl (ov_lt hlen (by decide))) (ov_at rfl (ov_lt hlen (by decide)))).up (by decide)) rfl ?_
          refine RT_step (pc2 := 43) rfl (fun _ _ => rfl) ?_
          refine rt_ico rfl ki_0 ?_
          refine rt_sip rfl k16_999 ?_
          refine ow_iv1 (l2 := ((180, mcl (Int32.ofNat 0) (Int32.ofNat 0) n lim a3 pl3 (km kd3) nm3 sg3 (Int32.ofNat 0) qm3 wd3 (Int32.ofNat v) (posn vs nn o wi tp)) :: (181, mtl ts) :: [(182, ia nw), (187, lng nz), (202, ia nl)])) rfl rfl rfl rfl hlen rfl rfl rfl ((hm _ (ov_hl hlen) (ov_at rfl (ov_lt hlen (by decide))) (ov_at rfl (ov_lt hlen (by decide)))).up (by decide)) rfl ?_
          refine bcF_ne rfl (by decide) ?_
          refine RT_step (pc2 := 56) rfl (fun _ _ => rfl) ?_
          refine RT_step (pc2 := 57) rfl (fun _ _ => rfl) ?_
          refine rt_bip rfl k8_50 ?_
          refine RT_step (pc2 := 60) rfl (fun _ _ => rfl) ?_
          refine ba_iadd rfl ?_
          rw [n_add]
          refine rt_ico rfl ki_0 ?_
          refine RT_step (pc2 := 63) rfl (fun _ _ => rfl) ?_
          refine ow_gf rfl rfl rfl hlen rfl ?_
          refine RT_step (pc2 := 67) rfl (fun _ _ => rfl) ?_
          refine ow_iv1 (l2 := ((180, mcl (Int32.ofNat 0) (Int32.ofNat 0) n lim a3 pl3 (km kd3) nm3 sg3 (Int32.ofNat 0) qm3 wd3 (Int32.ofNat v) (posn vs (nn + 1) o wi tp)) :: (181, mtl ts) :: [(182, ia nw), (187, lng nz), (202, ia ((((nl.set (4 * nn) (Int32.ofNat (50 + j0))).set (4 * nn + 1) (Int32.ofNat 0)).set (4 * nn + 2) (Int32.ofNat v)).set (4 * nn + 3) sg))])) rfl rfl rfl rfl hlen rfl rfl rfl ((m_says (ov_hl hlen) (ov_at rfl (ov_lt hlen (by decide))) (ov_at rfl (ov_lt hlen (by decide))) ln hd).up (by decide)) rfl ?_
          refine ow_pf (l2 := ((180, mcl (Int32.ofNat 0) (Int32.ofNat 0) n lim a3 pl3 (km kd3) nm3 sg3 (Int32.ofNat 0) qm3 wd3 (Int32.ofNat v) (posn vs (nn + 1) o wi nn)) :: (181, mtl ts) :: [(182, ia nw), (187, lng nz), (202, ia ((((nl.set (4 * nn) (Int32.ofNat (50 + j0))).set (4 * nn + 1) (Int32.ofNat 0)).set (4 * nn + 2) (Int32.ofNat v)).set (4 * nn + 3) sg))])) rfl rfl rfl rfl rfl hlen rfl rfl ?_
          refine rt_ico rfl ki_1 ?_
          exact ow_irt rfl rfl rfl
      · refine ⟨fun H hlen => ?_, fun H hlen => ?_⟩
        · refine FR_st2 (l2 := ((1, tcl n lim a3 kd3 pl3 w3 le3 nu3 (Int32.ofNat v) (Int32.ofNat 0) fp3) :: (2, bcl bs) :: [(13, dcl13 P Dn lw cl id gl bo), (14, lng pn), (15, ia ri), (16, ia lf), (17, ia wa), (18, ia fo), (19, lng dn), (20, ia ha), (21, ia pa), (22, ia bl), (110, .inr (7, [.int (Int32.ofNat o), .int (Int32.ofNat s2), .ref 111, .ref 112, .ref 113, .ref 114])), (111, wrd ws2), (112, ia sl2), (113, ia nb2)])) rfl rfl rfl ?_
          refine RT_step (pc2 := 1) rfl (fun _ _ => rfl) ?_
          refine ow_gf rfl rfl rfl hlen rfl ?_
          refine RT_step (pc2 := 5) rfl (fun _ _ => rfl) ?_
          refine RT_step (pc2 := 6) rfl (fun _ _ => rfl) ?_
          refine rt_bip rfl k8_60 ?_
          refine ow_iv1 (l2 := ((1, tcl n lim a kd pl w le nu tk (Int32.ofNat 0) fp) :: (2, bcl bs) :: [(13, dcl13 P Dn lw cl id gl bo), (14, lng pn), (15, ia ri), (16, ia lf), (17, ia wa), (18, ia fo), (19, lng dn), (20, ia ha), (21, ia pa), (22, ia bl), (110, .inr (7, [.int (Int32.ofNat o), .int (Int32.ofNat s), .ref 111, .ref 112, .ref 113, .ref 114])), (111, wrd ws), (112, ia sgl), (113, ia nbl)])) rfl rfl rfl rfl hlen rfl rfl rfl ((x_isMarkHere (ov_hl hlen) (ov_at rfl (ov_lt hlen (by decide))) hk5 (c := 60) (s := sv) (by decide) sv1 sv2).up (by decide)) rfl ?_
          refine bcT_ne rfl (b01_f g1) ?_
          refine RT_step (pc2 := 15) rfl (fun _ _ => rfl) ?_
          refine rt_bip rfl k8_61 ?_
          refine ow_iv1 (l2 := ((1, tcl n lim a kd pl w le nu tk (Int32.ofNat 0) fp) :: (2, bcl bs) :: [(13, dcl13 P Dn lw cl id gl bo), (14, lng pn), (15, ia ri), (16, ia lf), (17, ia wa), (18, ia fo), (19, lng dn), (20, ia ha), (21, ia pa), (22, ia bl), (110, .inr (7, [.int (Int32.ofNat o), .int (Int32.ofNat s), .ref 111, .ref 112, .ref 113, .ref 114])), (111, wrd ws), (112, ia sgl), (113, ia nbl)])) rfl rfl rfl rfl hlen rfl rfl rfl ((x_isMarkHere (ov_hl hlen) (ov_at rfl (ov_lt hlen (by decide))) hk5 (c := 61) (s := sv) (by decide) sv1 sv2).up (by decide)) rfl ?_
          refine bcT_ne rfl (b01_f g2) ?_
          refine RT_step (pc2 := 24) rfl (fun _ _ => rfl) ?_
          refine rt_bip rfl k8_62 ?_
          refine ow_iv1 (l2 := ((1, tcl n lim a kd pl w le nu tk (Int32.ofNat 0) fp) :: (2, bcl bs) :: [(13, dcl13 P Dn lw cl id gl bo), (14, lng pn), (15, ia ri), (16, ia lf), (17, ia wa), (18, ia fo), (19, lng dn), (20, ia ha), (21, ia pa), (22, ia bl), (110, .inr (7, [.int (Int32.ofNat o), .int (Int32.ofNat s), .ref 111, .ref 112, .ref 113, .ref 114])), (111, wrd ws), (112, ia sgl), (113, ia nbl)])) rfl rfl rfl rfl hlen rfl rfl rfl ((x_isMarkHere (ov_hl hlen) (ov_at rfl (ov_lt hlen (by decide))) hk5 (c := 62) (s := sv) (by decide) sv1 sv2).up (by decide)) rfl ?_
          refine bcF_ne rfl (b01_t g) ?_
          refine RT_step (pc2 := 39) rfl (fun _ _ => rfl) ?_
          refine ow_iv0 (l2 := ((1, tcl n lim a1 kd1 pl1 w1 le1 nu1 tk (Int32.ofNat 0) fp1) :: (2, bcl bs) :: [(13, dcl13 P Dn lw cl id gl bo), (14, lng pn), (15, ia ri), (16, ia lf), (17, ia wa), (18, ia fo), (19, lng dn), (20, ia ha), (21, ia pa), (22, ia bl), (110, .inr (7, [.int (Int32.ofNat o), .int (Int32.ofNat s), .ref 111, .ref 112, .ref 113, .ref 114])), (111, wrd ws), (112, ia sgl), (113, ia nbl)])) rfl rfl rfl rfl hlen rfl rfl rfl ((x1 _ (ov_hl hlen) (ov_at rfl (ov_lt hlen (by decide))) (ov_at rfl (ov_lt hlen (by decide)))).up (by decide)) rfl ?_
          refine RT_step (pc2 := 43) rfl (fun _ _ => rfl) ?_
          refine rt_ico rfl ki_0 ?_
          refine rt_sip rfl k16_999 ?_
          refine ow_iv1 (l2 := ((1, tcl n lim a3 kd3 pl3 w3 le3 nu3 (Int32.ofNat v) (Int32.ofNat 0) fp3) :: (2, bcl bs) :: [(13, dcl13 P Dn lw cl id gl bo), (14, lng pn), (15, ia ri), (16, ia lf), (17, ia wa), (18, ia fo), (19, lng dn), (20, ia ha), (21, ia pa), (22, ia bl), (110, .inr (7, [.int (Int32.ofNat o), .int (Int32.ofNat s), .ref 111, .ref 112, .ref 113, .ref 114])), (111, wrd ws), (112, ia sgl), (113, ia nbl)])) rfl rfl rfl rfl hlen rfl rfl rfl ((hx _ (ov_hl hlen) (ov_at rfl (ov_lt hlen (by decide))) (ov_at rfl (ov_lt hlen (by decide)))).up (by decide)) rfl ?_
          refine bcF_ne rfl (by decide) ?_
          refine RT_step (pc2 := 56) rfl (fun _ _ => rfl) ?_
          refine RT_step (pc2 := 57) rfl (fun _ _ => rfl) ?_
          refine RT_step (pc2 := 58) rfl (fun _ _ => rfl) ?_
          refine RT_step (pc2 := 59) rfl (fun _ _ => rfl) ?_
          refine ow_gf rfl rfl rfl hlen rfl ?_
          refine ow_iv0 (l2 := ((1, tcl n lim a3 kd3 pl3 w3 le3 nu3 (Int32.ofNat v) (Int32.ofNat 0) fp3) :: (2, bcl bs) :: [(13, dcl13 P Dn lw cl id gl bo), (14, lng pn), (15, ia ri), (16, ia lf), (17, ia wa), (18, ia fo), (19, lng dn), (20, ia ha), (21, ia pa), (22, ia bl), (110, .inr (7, [.int (Int32.ofNat o), .int (Int32.ofNat s2), .ref 111, .ref 112, .ref 113, .ref 114])), (111, wrd ws2), (112, ia sl2), (113, ia nb2)])) rfl rfl rfl rfl hlen rfl rfl rfl ((hadd _ _ (ov_hl hlen) (ov_at rfl (ov_lt hlen (by decide))) (ov_at rfl (ov_lt hlen (by decide))) (ov_at rfl (ov_lt hlen (by decide))) (ov_at rfl (ov_lt hlen (by decide)))).up (by decide)) rfl ?_
          refine rt_ico rfl ki_1 ?_
          exact ow_irt rfl rfl rfl
        · refine FR_st2 (l2 := ((180, mcl (Int32.ofNat 0) (Int32.ofNat 0) n lim a3 pl3 (km kd3) nm3 sg3 (Int32.ofNat 0) qm3 wd3 (Int32.ofNat v) (posn vs (nn + 1) o wi nn)) :: (181, mtl ts) :: [(182, ia nw), (187, lng nz), (202, ia ((((nl.set (4 * nn) (Int32.ofNat (50 + j0))).set (4 * nn + 1) (Int32.ofNat 0)).set (4 * nn + 2) (Int32.ofNat v)).set (4 * nn + 3) sg))])) rfl rfl rfl ?_
          refine RT_step (pc2 := 1) rfl (fun _ _ => rfl) ?_
          refine rt_bip rfl k8_60 ?_
          refine ow_iv1 (l2 := ((180, mcl (Int32.ofNat 0) (Int32.ofNat 0) n lim a pl (km kd) nm sg (Int32.ofNat 0) qm wd td (posn vs nn o wi tp)) :: (181, mtl ts) :: [(182, ia nw), (187, lng nz), (202, ia nl)])) rfl rfl rfl rfl hlen rfl rfl rfl ((m_isSign (ov_hl hlen) (ov_at rfl (ov_lt hlen (by decide))) k10 (c := 60) (s := sv) (by decide) sv1 sv3).up (by decide)) rfl ?_
          refine bcT_ne rfl (b01_f ((bq 60).trans g1)) ?_
          refine RT_step (pc2 := 10) rfl (fun _ _ => rfl) ?_
          refine rt_bip rfl k8_61 ?_
          refine ow_iv1 (l2 := ((180, mcl (Int32.ofNat 0) (Int32.ofNat 0) n lim a pl (km kd) nm sg (Int32.ofNat 0) qm wd td (posn vs nn o wi tp)) :: (181, mtl ts) :: [(182, ia nw), (187, lng nz), (202, ia nl)])) rfl rfl rfl rfl hlen rfl rfl rfl ((m_isSign (ov_hl hlen) (ov_at rfl (ov_lt hlen (by decide))) k10 (c := 61) (s := sv) (by decide) sv1 sv3).up (by decide)) rfl ?_
          refine bcT_ne rfl (b01_f ((bq 61).trans g2)) ?_
          refine RT_step (pc2 := 19) rfl (fun _ _ => rfl) ?_
          refine rt_bip rfl k8_62 ?_
          refine ow_iv1 (l2 := ((180, mcl (Int32.ofNat 0) (Int32.ofNat 0) n lim a pl (km kd) nm sg (Int32.ofNat 0) qm wd td (posn vs nn o wi tp)) :: (181, mtl ts) :: [(182, ia nw), (187, lng nz), (202, ia nl)])) rfl rfl rfl rfl hlen rfl rfl rfl ((m_isSign (ov_hl hlen) (ov_at rfl (ov_lt hlen (by decide))) k10 (c := 62) (s := sv) (by decide) sv1 sv3).up (by decide)) rfl ?_
          refine bcF_ne rfl (b01_t ((bq 62).trans g)) ?_
          refine RT_step (pc2 := 34) rfl (fun _ _ => rfl) ?_
          refine ow_gf rfl rfl rfl hlen rfl ?_
          refine RT_step (pc2 := 38) rfl (fun _ _ => rfl) ?_
          refine RT_step (pc2 := 39) rfl (fun _ _ => rfl) ?_
          refine ow_iv0 (l2 := ((180, mcl (Int32.ofNat 0) (Int32.ofNat 0) n lim a1 pl1 (km kd1) nm1 sg1 (Int32.ofNat 0) qm1 wd1 td (posn vs nn o wi tp)) :: (181, mtl ts) :: [(182, ia nw), (187, lng nz), (202, ia nl)])) rfl rfl rfl rfl hlen rfl rfl rfl ((m1 _ (ov_hl hlen) (ov_at rfl (ov_lt hlen (by decide))) (ov_at rfl (ov_lt hlen (by decide)))).up (by decide)) rfl ?_
          refine RT_step (pc2 := 43) rfl (fun _ _ => rfl) ?_
          refine rt_ico rfl ki_0 ?_
          refine rt_sip rfl k16_999 ?_
          refine ow_iv1 (l2 := ((180, mcl (Int32.ofNat 0) (Int32.ofNat 0) n lim a3 pl3 (km kd3) nm3 sg3 (Int32.ofNat 0) qm3 wd3 (Int32.ofNat v) (posn vs nn o wi tp)) :: (181, mtl ts) :: [(182, ia nw), (187, lng nz), (202, ia nl)])) rfl rfl rfl rfl hlen rfl rfl rfl ((hm _ (ov_hl hlen) (ov_at rfl (ov_lt hlen (by decide))) (ov_at rfl (ov_lt hlen (by decide)))).up (by decide)) rfl ?_
          refine bcF_ne rfl (by decide) ?_
          refine RT_step (pc2 := 56) rfl (fun _ _ => rfl) ?_
          refine RT_step (pc2 := 57) rfl (fun _ _ => rfl) ?_
          refine rt_bip rfl k8_50 ?_
          refine RT_step (pc2 := 60) rfl (fun _ _ => rfl) ?_
          refine ba_iadd rfl ?_
          rw [n_add]
          refine rt_ico rfl ki_0 ?_
          refine RT_step (pc2 := 63) rfl (fun _ _ => rfl) ?_
          refine ow_gf rfl rfl rfl hlen rfl ?_
          refine RT_step (pc2 := 67) rfl (fun _ _ => rfl) ?_
          refine ow_iv1 (l2 := ((180, mcl (Int32.ofNat 0) (Int32.ofNat 0) n lim a3 pl3 (km kd3) nm3 sg3 (Int32.ofNat 0) qm3 wd3 (Int32.ofNat v) (posn vs (nn + 1) o wi tp)) :: (181, mtl ts) :: [(182, ia nw), (187, lng nz), (202, ia ((((nl.set (4 * nn) (Int32.ofNat (50 + j0))).set (4 * nn + 1) (Int32.ofNat 0)).set (4 * nn + 2) (Int32.ofNat v)).set (4 * nn + 3) sg))])) rfl rfl rfl rfl hlen rfl rfl rfl ((m_says (ov_hl hlen) (ov_at rfl (ov_lt hlen (by decide))) (ov_at rfl (ov_lt hlen (by decide))) ln hd).up (by decide)) rfl ?_
          refine ow_pf (l2 := ((180, mcl (Int32.ofNat 0) (Int32.ofNat 0) n lim a3 pl3 (km kd3) nm3 sg3 (Int32.ofNat 0) qm3 wd3 (Int32.ofNat v) (posn vs (nn + 1) o wi nn)) :: (181, mtl ts) :: [(182, ia nw), (187, lng nz), (202, ia ((((nl.set (4 * nn) (Int32.ofNat (50 + j0))).set (4 * nn + 1) (Int32.ofNat 0)).set (4 * nn + 2) (Int32.ofNat v)).set (4 * nn + 3) sg))])) rfl rfl rfl rfl rfl hlen rfl rfl ?_
          refine rt_ico rfl ki_1 ?_
          exact ow_irt rfl rfl rfl
  · have g1 : (Nat.beq kd 3 && Nat.beq sv 60) = false := Bool.eq_false_iff.mpr (fun e => cc (Or.inl e))
    have g2 : (Nat.beq kd 3 && Nat.beq sv 61) = false := Bool.eq_false_iff.mpr (fun e => cc (Or.inr (Or.inl e)))
    have g3 : (Nat.beq kd 3 && Nat.beq sv 62) = false := Bool.eq_false_iff.mpr (fun e => cc (Or.inr (Or.inr e)))
    obtain ⟨T, M, f, hx, hm⟩ := s_ref (bs := bs) (ts := ts) (lim := lim) (po := (posn vs nn o wi tp)) (pl := pl) (tk := tk) (td := td) (fp := fp) (plM := qm) t (kk := 1) (by decide) (by decide) (Or.inr rfl)
    refine Or.inl ⟨T, M, f, fun H hlen => ?_, fun H hlen => ?_⟩
    · refine FR_st2 (l2 := ((1, T) :: (2, bcl bs) :: [(13, dcl13 P Dn lw cl id gl bo), (14, lng pn), (15, ia ri), (16, ia lf), (17, ia wa), (18, ia fo), (19, lng dn), (20, ia ha), (21, ia pa), (22, ia bl), (110, .inr (7, [.int (Int32.ofNat o), .int (Int32.ofNat s), .ref 111, .ref 112, .ref 113, .ref 114])), (111, wrd ws), (112, ia sgl), (113, ia nbl)])) rfl rfl rfl ?_
      refine RT_step (pc2 := 1) rfl (fun _ _ => rfl) ?_
      refine ow_gf rfl rfl rfl hlen rfl ?_
      refine RT_step (pc2 := 5) rfl (fun _ _ => rfl) ?_
      refine RT_step (pc2 := 6) rfl (fun _ _ => rfl) ?_
      refine rt_bip rfl k8_60 ?_
      refine ow_iv1 (l2 := ((1, tcl n lim a kd pl w le nu tk (Int32.ofNat 0) fp) :: (2, bcl bs) :: [(13, dcl13 P Dn lw cl id gl bo), (14, lng pn), (15, ia ri), (16, ia lf), (17, ia wa), (18, ia fo), (19, lng dn), (20, ia ha), (21, ia pa), (22, ia bl), (110, .inr (7, [.int (Int32.ofNat o), .int (Int32.ofNat s), .ref 111, .ref 112, .ref 113, .ref 114])), (111, wrd ws), (112, ia sgl), (113, ia nbl)])) rfl rfl rfl rfl hlen rfl rfl rfl ((x_isMarkHere (ov_hl hlen) (ov_at rfl (ov_lt hlen (by decide))) hk5 (c := 60) (s := sv) (by decide) sv1 sv2).up (by decide)) rfl ?_
      refine bcT_ne rfl (b01_f g1) ?_
      refine RT_step (pc2 := 15) rfl (fun _ _ => rfl) ?_
      refine rt_bip rfl k8_61 ?_
      refine ow_iv1 (l2 := ((1, tcl n lim a kd pl w le nu tk (Int32.ofNat 0) fp) :: (2, bcl bs) :: [(13, dcl13 P Dn lw cl id gl bo), (14, lng pn), (15, ia ri), (16, ia lf), (17, ia wa), (18, ia fo), (19, lng dn), (20, ia ha), (21, ia pa), (22, ia bl), (110, .inr (7, [.int (Int32.ofNat o), .int (Int32.ofNat s), .ref 111, .ref 112, .ref 113, .ref 114])), (111, wrd ws), (112, ia sgl), (113, ia nbl)])) rfl rfl rfl rfl hlen rfl rfl rfl ((x_isMarkHere (ov_hl hlen) (ov_at rfl (ov_lt hlen (by decide))) hk5 (c := 61) (s := sv) (by decide) sv1 sv2).up (by decide)) rfl ?_
      refine bcT_ne rfl (b01_f g2) ?_
      refine RT_step (pc2 := 24) rfl (fun _ _ => rfl) ?_
      refine rt_bip rfl k8_62 ?_
      refine ow_iv1 (l2 := ((1, tcl n lim a kd pl w le nu tk (Int32.ofNat 0) fp) :: (2, bcl bs) :: [(13, dcl13 P Dn lw cl id gl bo), (14, lng pn), (15, ia ri), (16, ia lf), (17, ia wa), (18, ia fo), (19, lng dn), (20, ia ha), (21, ia pa), (22, ia bl), (110, .inr (7, [.int (Int32.ofNat o), .int (Int32.ofNat s), .ref 111, .ref 112, .ref 113, .ref 114])), (111, wrd ws), (112, ia sgl), (113, ia nbl)])) rfl rfl rfl rfl hlen rfl rfl rfl ((x_isMarkHere (ov_hl hlen) (ov_at rfl (ov_lt hlen (by decide))) hk5 (c := 62) (s := sv) (by decide) sv1 sv2).up (by decide)) rfl ?_
      refine bcT_ne rfl (b01_f g3) ?_
      refine RT_step (pc2 := 33) rfl (fun _ _ => rfl) ?_
      refine rt_ico rfl ki_1 ?_
      refine ow_iv1 (l2 := ((1, T) :: (2, bcl bs) :: [(13, dcl13 P Dn lw cl id gl bo), (14, lng pn), (15, ia ri), (16, ia lf), (17, ia wa), (18, ia fo), (19, lng dn), (20, ia ha), (21, ia pa), (22, ia bl), (110, .inr (7, [.int (Int32.ofNat o), .int (Int32.ofNat s), .ref 111, .ref 112, .ref 113, .ref 114])), (111, wrd ws), (112, ia sgl), (113, ia nbl)])) rfl rfl rfl rfl hlen rfl rfl rfl ((hx _ (ov_hl hlen) (ov_at rfl (ov_lt hlen (by decide))) (ov_at rfl (ov_lt hlen (by decide)))).up (by decide)) rfl ?_
      exact ow_irt rfl rfl rfl
    · refine FR_st2 (l2 := ((180, M) :: (181, mtl ts) :: [(182, ia nw), (187, lng nz), (202, ia nl)])) rfl rfl rfl ?_
      refine RT_step (pc2 := 1) rfl (fun _ _ => rfl) ?_
      refine rt_bip rfl k8_60 ?_
      refine ow_iv1 (l2 := ((180, mcl (Int32.ofNat 0) (Int32.ofNat 0) n lim a pl (km kd) nm sg (Int32.ofNat 0) qm wd td (posn vs nn o wi tp)) :: (181, mtl ts) :: [(182, ia nw), (187, lng nz), (202, ia nl)])) rfl rfl rfl rfl hlen rfl rfl rfl ((m_isSign (ov_hl hlen) (ov_at rfl (ov_lt hlen (by decide))) k10 (c := 60) (s := sv) (by decide) sv1 sv3).up (by decide)) rfl ?_
      refine bcT_ne rfl (b01_f ((bq 60).trans g1)) ?_
      refine RT_step (pc2 := 10) rfl (fun _ _ => rfl) ?_
      refine rt_bip rfl k8_61 ?_
      refine ow_iv1 (l2 := ((180, mcl (Int32.ofNat 0) (Int32.ofNat 0) n lim a pl (km kd) nm sg (Int32.ofNat 0) qm wd td (posn vs nn o wi tp)) :: (181, mtl ts) :: [(182, ia nw), (187, lng nz), (202, ia nl)])) rfl rfl rfl rfl hlen rfl rfl rfl ((m_isSign (ov_hl hlen) (ov_at rfl (ov_lt hlen (by decide))) k10 (c := 61) (s := sv) (by decide) sv1 sv3).up (by decide)) rfl ?_
      refine bcT_ne rfl (b01_f ((bq 61).trans g2)) ?_
      refine RT_step (pc2 := 19) rfl (fun _ _ => rfl) ?_
      refine rt_bip rfl k8_62 ?_
      refine ow_iv1 (l2 := ((180, mcl (Int32.ofNat 0) (Int32.ofNat 0) n lim a pl (km kd) nm sg (Int32.ofNat 0) qm wd td (posn vs nn o wi tp)) :: (181, mtl ts) :: [(182, ia nw), (187, lng nz), (202, ia nl)])) rfl rfl rfl rfl hlen rfl rfl rfl ((m_isSign (ov_hl hlen) (ov_at rfl (ov_lt hlen (by decide))) k10 (c := 62) (s := sv) (by decide) sv1 sv3).up (by decide)) rfl ?_
      refine bcT_ne rfl (b01_f ((bq 62).trans g3)) ?_
      refine RT_step (pc2 := 28) rfl (fun _ _ => rfl) ?_
      refine rt_ico rfl ki_1 ?_
      refine ow_iv1 (l2 := ((180, M) :: (181, mtl ts) :: [(182, ia nw), (187, lng nz), (202, ia nl)])) rfl rfl rfl rfl hlen rfl rfl rfl ((hm _ (ov_hl hlen) (ov_at rfl (ov_lt hlen (by decide))) (ov_at rfl (ov_lt hlen (by decide)))).up (by decide)) rfl ?_
      exact ow_irt rfl rfl rfl
theorem st13_115 {B : Nat → Nat} {bs ts : List Int32} {vs : Nat → Value} {n lim : Nat} {k a kd pl w : Nat} {le : Int64} {nu tk td fp nm sg qm : Int32} {wd : Int64} {o s nn wi tp : Nat} {ws : List (Option Nat)} {sgl nbl nl nw : List Int32} {nz : List Int64} {P : Nat} {Dn : Nat} {lw : Int32} {cl : Int32} {id : Int32} {gl : Nat} {bo : Nat} {pn : List Int64} {ri : List Int32} {lf : List Int32} {wa : List Int32} {fo : List Int32} {dn : List Int64} {ha : List Int32} {pa : List Int32} {bl : List Int32} (hB : BY bs B) (hM : MY ts B) (hb : ∀ i, B i < 256) (hn : n ≤ 940) (hl : lim ≤ 940) (t : TF k n a kd w le nu nm sg wd) (hP : P ≤ 7) (lp : pn.length = 7) (lz : nz.length = 15) (hv : nw[0]? = some (Int32.ofNat P)) (hN : ∀ i, i < P → ∃ ss, nok ss ∧ pn[i]? = some (p5 ss) ∧ nz[0 + i]? = some (p27 ss)) (sx : SX s ws sgl nbl) (ln : nl.length = 240) (hd : nn < 60) (ho : o ≤ 20) (hw8 : wi ≤ 8) : (∃ T M, FC n lim (posn vs nn o wi tp) T M ∧ LSn 4 146 [.ref 115, .ref 1, .ref 13] 5 261 [.ref 180, .int (Int32.ofNat 25)] ((1, tcl n lim a kd pl w le nu tk (Int32.ofNat 0) fp) :: (2, bcl bs) :: [(13, dcl13 P Dn lw cl id gl bo), (14, lng pn), (15, ia ri), (16, ia lf), (17, ia wa), (18, ia fo), (19, lng dn), (20, ia ha), (21, ia pa), (22, ia bl), (115, .inr (7, [.int (Int32.ofNat o), .int (Int32.ofNat s), .ref 116, .ref 117, .ref 118, .ref 119])), (116, wrd ws), (117, ia sgl), (118, ia nbl)]) ((180, mcl (Int32.ofNat 0) (Int32.ofNat 0) n lim a pl (km kd) nm sg (Int32.ofNat 0) qm wd td (posn vs nn o wi tp)) :: (181, mtl ts) :: [(182, ia nw), (187, lng nz), (202, ia nl)]) (.int (Int32.ofNat 0)) (.int (Int32.ofNat 0)) [(1, T), (115, .inr (7, [.int (Int32.ofNat o), .int (Int32.ofNat s), .ref 116, .ref 117, .ref 118, .ref 119])), (116, wrd ws), (117, ia sgl), (118, ia nbl)] [(180, M), (202, ia nl)]) ∨ (∃ (tk2 td2 : Int32) (T M : AE) (s2 : Nat) (ws2 : List (Option Nat)) (sl2 nb2 nl2 : List Int32), TC n lim (posn vs (nn + 1) o wi nn) (k + 1) tk2 td2 T M ∧ SX s2 ws2 sl2 nb2 ∧ nl2.length = 240 ∧ LSn 4 146 [.ref 115, .ref 1, .ref 13] 5 261 [.ref 180, .int (Int32.ofNat 25)] ((1, tcl n lim a kd pl w le nu tk (Int32.ofNat 0) fp) :: (2, bcl bs) :: [(13, dcl13 P Dn lw cl id gl bo), (14, lng pn), (15, ia ri), (16, ia lf), (17, ia wa), (18, ia fo), (19, lng dn), (20, ia ha), (21, ia pa), (22, ia bl), (115, .inr (7, [.int (Int32.ofNat o), .int (Int32.ofNat s), .ref 116, .ref 117, .ref 118, .ref 119])), (116, wrd ws), (117, ia sgl), (118, ia nbl)]) ((180, mcl (Int32.ofNat 0) (Int32.ofNat 0) n lim a pl (km kd) nm sg (Int32.ofNat 0) qm wd td (posn vs nn o wi tp)) :: (181, mtl ts) :: [(182, ia nw), (187, lng nz), (202, ia nl)]) (.int (Int32.ofNat 1)) (.int (Int32.ofNat 1)) [(1, T), (115, .inr (7, [.int (Int32.ofNat o), .int (Int32.ofNat s2), .ref 116, .ref 117, .ref 118, .ref 119])), (116, wrd ws2), (117, ia sl2), (118, ia nb2)] [(180, M), (202, ia nl2)]) := by
  have hk := (km_is kd t.2.2.2.1).2.2.2.2.2
  have hw := t.2.2.2.2.1
  by_cases c : w = 1
  · have hk1 := w_k1 t (by omega)
    obtain ⟨rs, r1, r2, r3, r4, r5, r6⟩ := t.2.2.2.2.2.1 hk1
    have hr : nok rs := ⟨r1, r2, r3⟩
    have hnm : (Nat.beq (km kd) 2 && nmB wd 30 0) = true := by rw [w_nm t, c]; rfl
    have q1 := nm_eq hr hN
    rw [← r4, ← r5] at q1
    cases e1 : fd pn le 0 P 0 with
    | some j =>
      have hj := (fd_lt e1).2
      have e2 := q1.symm.trans e1
      obtain ⟨T1, M1, c1, x1, m1⟩ := s_adv hB hM hb hn hl (po := (posn vs nn o wi tp)) (pl := pl) (tk := tk) (td := (Int32.ofNat j)) (fp := fp) (plM := qm) t (by omega) (by omega)
      obtain ⟨a1, kd1, pl1, w1, le1, nu1, fp1, nm1, sg1, qm1, wd1, rfl, rfl, t1⟩ := c1
      obtain ⟨s2, ws2, sl2, nb2, sx2, hadd⟩ := sx_add115 sx (w := 27) (by decide) (Int32.ofNat 61) (Int32.ofNat j)
      refine Or.inr ⟨tk, (Int32.ofNat j), tcl n lim a1 kd1 pl1 w1 le1 nu1 tk (Int32.ofNat 0) fp1, mcl (Int32.ofNat 0) (Int32.ofNat 0) n lim a1 pl1 (km kd1) nm1 sg1 (Int32.ofNat 0) qm1 wd1 (Int32.ofNat j) (posn vs (nn + 1) o wi nn), s2, ws2, sl2, nb2, ((((nl.set (4 * nn) (Int32.ofNat 75)).set (4 * nn + 1) (Int32.ofNat j)).set (4 * nn + 2) (Int32.ofNat 0)).set (4 * nn + 3) (Int32.ofNat 0)), tf_td t1, sx2, (by simp only [List.length_set]; exact ln), fun H hlen => ?_, fun H hlen => ?_⟩
      · have hz : FR 2 71 [.ref 1, .ref 14, .int (Int32.ofNat P)] (ov H ((1, tcl n lim a kd pl w le nu tk (Int32.ofNat 0) fp) :: (2, bcl bs) :: [(13, dcl13 P Dn lw cl id gl bo), (14, lng pn), (15, ia ri), (16, ia lf), (17, ia wa), (18, ia fo), (19, lng dn), (20, ia ha), (21, ia pa), (22, ia bl), (115, .inr (7, [.int (Int32.ofNat o), .int (Int32.ofNat s), .ref 116, .ref 117, .ref 118, .ref 119])), (116, wrd ws), (117, ia sgl), (118, ia nbl)])) (some (.int (Int32.ofNat j)), ov (ov H ((1, tcl n lim a kd pl w le nu tk (Int32.ofNat 0) fp) :: (2, bcl bs) :: [(13, dcl13 P Dn lw cl id gl bo), (14, lng pn), (15, ia ri), (16, ia lf), (17, ia wa), (18, ia fo), (19, lng dn), (20, ia ha), (21, ia pa), (22, ia bl), (115, .inr (7, [.int (Int32.ofNat o), .int (Int32.ofNat s), .ref 116, .ref 117, .ref 118, .ref 119])), (116, wrd ws), (117, ia sgl), (118, ia nbl)])) [(1, tcl n lim a kd pl w le nu tk (Int32.ofNat 0) fp)]) := by
          refine FR_st2 (l2 := ((1, tcl n lim a kd pl w le nu tk (Int32.ofNat 0) fp) :: (2, bcl bs) :: [(13, dcl13 P Dn lw cl id gl bo), (14, lng pn), (15, ia ri), (16, ia lf), (17, ia wa), (18, ia fo), (19, lng dn), (20, ia ha), (21, ia pa), (22, ia bl), (115, .inr (7, [.int (Int32.ofNat o), .int (Int32.ofNat s), .ref 116, .ref 117, .ref 118, .ref 119])), (116, wrd ws), (117, ia sgl), (118, ia nbl)])) rfl rfl rfl ?_
          refine RT_step (pc2 := 1) rfl (fun _ _ => rfl) ?_
          refine ow_gf rfl rfl rfl hlen rfl ?_
          refine RT_step (pc2 := 7) rfl (fun _ _ => rfl) ?_
          refine rt_acE rfl (by omega) (by omega) ?_
          refine RT_if c ?_
          refine RT_step (pc2 := 19) rfl (fun _ _ => rfl) ?_
          refine RT_step (pc2 := 20) rfl (fun _ _ => rfl) ?_
          refine RT_step (pc2 := 21) rfl (fun _ _ => rfl) ?_
          refine ow_gf rfl rfl rfl hlen rfl ?_
          refine ow_is1 rfl rfl rfl rfl rfl ((x_find14 (ov_hl hlen) (ov_at rfl (ov_lt hlen (by decide))) (by omega) (by omega)).up (by decide)) rfl ?_
          rw [show fdI (fd pn le 0 P 0) = Int32.ofNat j from by rw [e1]; rfl]
          refine RT_step (pc2 := 28) rfl (fun _ _ => rfl) ?_
          refine RT_step (pc2 := 29) rfl (fun _ _ => rfl) ?_
          refine rt_ico rfl ki_m1 ?_
          refine biF_ne rfl (n_m1 (by omega)) ?_
          refine RT_step (pc2 := 40) rfl (fun _ _ => rfl) ?_
          exact ow_irt rfl rfl rfl
        have hy : FR 3 73 [.ref 13, .ref 1] (ov H ((1, tcl n lim a kd pl w le nu tk (Int32.ofNat 0) fp) :: (2, bcl bs) :: [(13, dcl13 P Dn lw cl id gl bo), (14, lng pn), (15, ia ri), (16, ia lf), (17, ia wa), (18, ia fo), (19, lng dn), (20, ia ha), (21, ia pa), (22, ia bl), (115, .inr (7, [.int (Int32.ofNat o), .int (Int32.ofNat s), .ref 116, .ref 117, .ref 118, .ref 119])), (116, wrd ws), (117, ia sgl), (118, ia nbl)])) (some (.int (Int32.ofNat j)), ov (ov H ((1, tcl n lim a kd pl w le nu tk (Int32.ofNat 0) fp) :: (2, bcl bs) :: [(13, dcl13 P Dn lw cl id gl bo), (14, lng pn), (15, ia ri), (16, ia lf), (17, ia wa), (18, ia fo), (19, lng dn), (20, ia ha), (21, ia pa), (22, ia bl), (115, .inr (7, [.int (Int32.ofNat o), .int (Int32.ofNat s), .ref 116, .ref 117, .ref 118, .ref 119])), (116, wrd ws), (117, ia sgl), (118, ia nbl)])) [(1, tcl n lim a kd pl w le nu tk (Int32.ofNat 0) fp)]) := by
          refine FR_st2 (l2 := ((1, tcl n lim a kd pl w le nu tk (Int32.ofNat 0) fp) :: (2, bcl bs) :: [(13, dcl13 P Dn lw cl id gl bo), (14, lng pn), (15, ia ri), (16, ia lf), (17, ia wa), (18, ia fo), (19, lng dn), (20, ia ha), (21, ia pa), (22, ia bl), (115, .inr (7, [.int (Int32.ofNat o), .int (Int32.ofNat s), .ref 116, .ref 117, .ref 118, .ref 119])), (116, wrd ws), (117, ia sgl), (118, ia nbl)])) rfl rfl rfl ?_
          refine RT_step (pc2 := 1) rfl (fun _ _ => rfl) ?_
          refine RT_step (pc2 := 2) rfl (fun _ _ => rfl) ?_
          refine ow_gf rfl rfl rfl hlen rfl ?_
          refine RT_step (pc2 := 6) rfl (fun _ _ => rfl) ?_
          refine ow_gf rfl rfl rfl hlen rfl ?_
          refine ow_is1 (l2 := ((1, tcl n lim a kd pl w le nu tk (Int32.ofNat 0) fp) :: (2, bcl bs) :: [(13, dcl13 P Dn lw cl id gl bo), (14, lng pn), (15, ia ri), (16, ia lf), (17, ia wa), (18, ia fo), (19, lng dn), (20, ia ha), (21, ia pa), (22, ia bl), (115, .inr (7, [.int (Int32.ofNat o), .int (Int32.ofNat s), .ref 116, .ref 117, .ref 118, .ref 119])), (116, wrd ws), (117, ia sgl), (118, ia nbl)])) rfl rfl rfl rfl rfl (hz.up (by decide)) rfl ?_
          exact ow_irt rfl rfl rfl
        refine FR_st2 (l2 := ((1, tcl n lim a1 kd1 pl1 w1 le1 nu1 tk (Int32.ofNat 0) fp1) :: (2, bcl bs) :: [(13, dcl13 P Dn lw cl id gl bo), (14, lng pn), (15, ia ri), (16, ia lf), (17, ia wa), (18, ia fo), (19, lng dn), (20, ia ha), (21, ia pa), (22, ia bl), (115, .inr (7, [.int (Int32.ofNat o), .int (Int32.ofNat s2), .ref 116, .ref 117, .ref 118, .ref 119])), (116, wrd ws2), (117, ia sl2), (118, ia nb2)])) rfl rfl rfl ?_
        refine RT_step (pc2 := 1) rfl (fun _ _ => rfl) ?_
        refine RT_step (pc2 := 2) rfl (fun _ _ => rfl) ?_
        refine ow_iv1 (l2 := ((1, tcl n lim a kd pl w le nu tk (Int32.ofNat 0) fp) :: (2, bcl bs) :: [(13, dcl13 P Dn lw cl id gl bo), (14, lng pn), (15, ia ri), (16, ia lf), (17, ia wa), (18, ia fo), (19, lng dn), (20, ia ha), (21, ia pa), (22, ia bl), (115, .inr (7, [.int (Int32.ofNat o), .int (Int32.ofNat s), .ref 116, .ref 117, .ref 118, .ref 119])), (116, wrd ws), (117, ia sgl), (118, ia nbl)])) rfl rfl rfl rfl hlen rfl rfl rfl (hy.up (by decide)) rfl ?_
        refine RT_step (pc2 := 6) rfl (fun _ _ => rfl) ?_
        refine RT_step (pc2 := 7) rfl (fun _ _ => rfl) ?_
        refine rt_ico rfl ki_m1 ?_
        refine biF_ne rfl (n_m1 (by omega)) ?_
        refine RT_step (pc2 := 14) rfl (fun _ _ => rfl) ?_
        refine RT_step (pc2 := 17) rfl (fun _ _ => rfl) ?_
        refine rt_bip rfl k8_61 ?_
        refine RT_step (pc2 := 20) rfl (fun _ _ => rfl) ?_
        refine ow_iv0 (l2 := ((1, tcl n lim a kd pl w le nu tk (Int32.ofNat 0) fp) :: (2, bcl bs) :: [(13, dcl13 P Dn lw cl id gl bo), (14, lng pn), (15, ia ri), (16, ia lf), (17, ia wa), (18, ia fo), (19, lng dn), (20, ia ha), (21, ia pa), (22, ia bl), (115, .inr (7, [.int (Int32.ofNat o), .int (Int32.ofNat s2), .ref 116, .ref 117, .ref 118, .ref 119])), (116, wrd ws2), (117, ia sl2), (118, ia nb2)])) rfl rfl rfl rfl hlen rfl rfl rfl ((hadd _ _ (ov_hl hlen) (ov_at rfl (ov_lt hlen (by decide))) (ov_at rfl (ov_lt hlen (by decide))) (ov_at rfl (ov_lt hlen (by decide))) (ov_at rfl (ov_lt hlen (by decide)))).up (by decide)) rfl ?_
        refine RT_step (pc2 := 24) rfl (fun _ _ => rfl) ?_
        refine ow_iv0 (l2 := ((1, tcl n lim a1 kd1 pl1 w1 le1 nu1 tk (Int32.ofNat 0) fp1) :: (2, bcl bs) :: [(13, dcl13 P Dn lw cl id gl bo), (14, lng pn), (15, ia ri), (16, ia lf), (17, ia wa), (18, ia fo), (19, lng dn), (20, ia ha), (21, ia pa), (22, ia bl), (115, .inr (7, [.int (Int32.ofNat o), .int (Int32.ofNat s2), .ref 116, .ref 117, .ref 118, .ref 119])), (116, wrd ws2), (117, ia sl2), (118, ia nb2)])) rfl rfl rfl rfl hlen rfl rfl rfl ((x1 _ (ov_hl hlen) (ov_at rfl (ov_lt hlen (by decide))) (ov_at rfl (ov_lt hlen (by decide)))).up (by decide)) rfl ?_
        refine rt_ico rfl ki_1 ?_
        exact ow_irt rfl rfl rfl
      · have hy : FR 4 257 [.ref 180, .int (Int32.ofNat 0), .int (Int32.ofNat P)] (ov H ((180, mcl (Int32.ofNat 0) (Int32.ofNat 0) n lim a pl (km kd) nm sg (Int32.ofNat 0) qm wd td (posn vs nn o wi tp)) :: (181, mtl ts) :: [(182, ia nw), (187, lng nz), (202, ia nl)])) (some (.int (Int32.ofNat 1)), ov (ov H ((180, mcl (Int32.ofNat 0) (Int32.ofNat 0) n lim a pl (km kd) nm sg (Int32.ofNat 0) qm wd td (posn vs nn o wi tp)) :: (181, mtl ts) :: [(182, ia nw), (187, lng nz), (202, ia nl)])) [(180, mcl (Int32.ofNat 0) (Int32.ofNat 0) n lim a1 pl1 (km kd1) nm1 sg1 (Int32.ofNat 0) qm1 wd1 (Int32.ofNat j) (posn vs nn o wi tp))]) := by
          refine FR_st2 (l2 := ((180, mcl (Int32.ofNat 0) (Int32.ofNat 0) n lim a1 pl1 (km kd1) nm1 sg1 (Int32.ofNat 0) qm1 wd1 (Int32.ofNat j) (posn vs nn o wi tp)) :: (181, mtl ts) :: [(182, ia nw), (187, lng nz), (202, ia nl)])) rfl rfl rfl ?_
          refine RT_step (pc2 := 1) rfl (fun _ _ => rfl) ?_
          refine ow_iv1 rfl rfl rfl rfl hlen rfl rfl rfl ((m_isName (ov_hl hlen) (ov_at rfl (ov_lt hlen (by decide))) hk).up (by decide)) rfl ?_
          refine bcF_ne rfl (b01_t hnm) ?_
          refine RT_step (pc2 := 14) rfl (fun _ _ => rfl) ?_
          refine RT_step (pc2 := 15) rfl (fun _ _ => rfl) ?_
          refine ow_gf rfl rfl rfl hlen rfl ?_
          refine RT_step (pc2 := 19) rfl (fun _ _ => rfl) ?_
          refine RT_step (pc2 := 20) rfl (fun _ _ => rfl) ?_
          refine RT_step (pc2 := 21) rfl (fun _ _ => rfl) ?_
          refine ow_gf rfl rfl rfl hlen rfl ?_
          refine ow_is1 rfl rfl rfl rfl rfl ((m_find7 (bs0 := 0) (cnt := P) (ov_hl hlen) (ov_at rfl (ov_lt hlen (by decide))) (by omega) (by omega)).up (by decide)) rfl ?_
          rw [show fdI (fd nz wd 0 P 0) = Int32.ofNat j from by rw [e2]; rfl]
          refine ow_pf (l2 := ((180, mcl (Int32.ofNat 0) (Int32.ofNat 0) n lim a pl (km kd) nm sg (Int32.ofNat 0) qm wd (Int32.ofNat j) (posn vs nn o wi tp)) :: (181, mtl ts) :: [(182, ia nw), (187, lng nz), (202, ia nl)])) rfl rfl rfl rfl rfl hlen rfl rfl ?_
          refine RT_step (pc2 := 31) rfl (fun _ _ => rfl) ?_
          refine ow_gf rfl rfl rfl hlen rfl ?_
          refine rt_ico rfl ki_m1 ?_
          refine biF_ne rfl (n_m1 (by omega)) ?_
          refine RT_step (pc2 := 45) rfl (fun _ _ => rfl) ?_
          refine ow_iv0 (l2 := ((180, mcl (Int32.ofNat 0) (Int32.ofNat 0) n lim a1 pl1 (km kd1) nm1 sg1 (Int32.ofNat 0) qm1 wd1 (Int32.ofNat j) (posn vs nn o wi tp)) :: (181, mtl ts) :: [(182, ia nw), (187, lng nz), (202, ia nl)])) rfl rfl rfl rfl hlen rfl rfl rfl ((m1 _ (ov_hl hlen) (ov_at rfl (ov_lt hlen (by decide))) (ov_at rfl (ov_lt hlen (by decide)))).up (by decide)) rfl ?_
          refine rt_ico rfl ki_1 ?_
          exact ow_irt rfl rfl rfl
        refine FR_st2 (l2 := ((180, mcl (Int32.ofNat 0) (Int32.ofNat 0) n lim a1 pl1 (km kd1) nm1 sg1 (Int32.ofNat 0) qm1 wd1 (Int32.ofNat j) (posn vs (nn + 1) o wi nn)) :: (181, mtl ts) :: [(182, ia nw), (187, lng nz), (202, ia ((((nl.set (4 * nn) (Int32.ofNat 75)).set (4 * nn + 1) (Int32.ofNat j)).set (4 * nn + 2) (Int32.ofNat 0)).set (4 * nn + 3) (Int32.ofNat 0)))])) rfl rfl rfl ?_
        refine RT_step (pc2 := 1) rfl (fun _ _ => rfl) ?_
        refine rt_ico rfl ki_0 ?_
        refine RT_step (pc2 := 3) rfl (fun _ _ => rfl) ?_
        refine ow_gf rfl rfl rfl hlen rfl ?_
        refine rt_ico rfl ki_0 ?_
        refine ow_ialN rfl rfl hv (by omega) hlen rfl ?_
        refine ow_iv1 (l2 := ((180, mcl (Int32.ofNat 0) (Int32.ofNat 0) n lim a1 pl1 (km kd1) nm1 sg1 (Int32.ofNat 0) qm1 wd1 (Int32.ofNat j) (posn vs nn o wi tp)) :: (181, mtl ts) :: [(182, ia nw), (187, lng nz), (202, ia nl)])) rfl rfl rfl rfl hlen rfl rfl rfl (hy.up (by decide)) rfl ?_
        refine bcF_ne rfl (by decide) ?_
        refine RT_step (pc2 := 17) rfl (fun _ _ => rfl) ?_
        refine RT_step (pc2 := 18) rfl (fun _ _ => rfl) ?_
        refine rt_bip rfl k8_50 ?_
        refine RT_step (pc2 := 21) rfl (fun _ _ => rfl) ?_
        refine ba_iadd rfl ?_
        rw [n_add]
        refine RT_step (pc2 := 23) rfl (fun _ _ => rfl) ?_
        refine ow_gf rfl rfl rfl hlen rfl ?_
        refine rt_ico rfl ki_0 ?_
        refine rt_ico rfl ki_0 ?_
        refine ow_iv1 (l2 := ((180, mcl (Int32.ofNat 0) (Int32.ofNat 0) n lim a1 pl1 (km kd1) nm1 sg1 (Int32.ofNat 0) qm1 wd1 (Int32.ofNat j) (posn vs (nn + 1) o wi tp)) :: (181, mtl ts) :: [(182, ia nw), (187, lng nz), (202, ia ((((nl.set (4 * nn) (Int32.ofNat 75)).set (4 * nn + 1) (Int32.ofNat j)).set (4 * nn + 2) (Int32.ofNat 0)).set (4 * nn + 3) (Int32.ofNat 0)))])) rfl rfl rfl rfl hlen rfl rfl rfl ((m_says (ov_hl hlen) (ov_at rfl (ov_lt hlen (by decide))) (ov_at rfl (ov_lt hlen (by decide))) ln hd).up (by decide)) rfl ?_
        refine ow_pf (l2 := ((180, mcl (Int32.ofNat 0) (Int32.ofNat 0) n lim a1 pl1 (km kd1) nm1 sg1 (Int32.ofNat 0) qm1 wd1 (Int32.ofNat j) (posn vs (nn + 1) o wi nn)) :: (181, mtl ts) :: [(182, ia nw), (187, lng nz), (202, ia ((((nl.set (4 * nn) (Int32.ofNat 75)).set (4 * nn + 1) (Int32.ofNat j)).set (4 * nn + 2) (Int32.ofNat 0)).set (4 * nn + 3) (Int32.ofNat 0)))])) rfl rfl rfl rfl rfl hlen rfl rfl ?_
        refine rt_ico rfl ki_1 ?_
        exact ow_irt rfl rfl rfl
    | none =>
      have e2 := q1.symm.trans e1
      obtain ⟨T, M, f, hx, hm⟩ := s_ref (bs := bs) (ts := ts) (lim := lim) (po := (posn vs nn o wi tp)) (pl := pl) (tk := tk) (td := (-1 : Int32)) (fp := fp) (plM := qm) t (kk := 3) (by decide) (by decide) (Or.inl (by omega))
      refine Or.inl ⟨T, M, f, fun H hlen => ?_, fun H hlen => ?_⟩
      · have hz : FR 2 71 [.ref 1, .ref 14, .int (Int32.ofNat P)] (ov H ((1, tcl n lim a kd pl w le nu tk (Int32.ofNat 0) fp) :: (2, bcl bs) :: [(13, dcl13 P Dn lw cl id gl bo), (14, lng pn), (15, ia ri), (16, ia lf), (17, ia wa), (18, ia fo), (19, lng dn), (20, ia ha), (21, ia pa), (22, ia bl), (115, .inr (7, [.int (Int32.ofNat o), .int (Int32.ofNat s), .ref 116, .ref 117, .ref 118, .ref 119])), (116, wrd ws), (117, ia sgl), (118, ia nbl)])) (some (.int (-1 : Int32)), ov (ov H ((1, tcl n lim a kd pl w le nu tk (Int32.ofNat 0) fp) :: (2, bcl bs) :: [(13, dcl13 P Dn lw cl id gl bo), (14, lng pn), (15, ia ri), (16, ia lf), (17, ia wa), (18, ia fo), (19, lng dn), (20, ia ha), (21, ia pa), (22, ia bl), (115, .inr (7, [.int (Int32.ofNat o), .int (Int32.ofNat s), .ref 116, .ref 117, .ref 118, .ref 119])), (116, wrd ws), (117, ia sgl), (118, ia nbl)])) [(1, T)]) := by
          refine FR_st2 (l2 := ((1, T) :: (2, bcl bs) :: [(13, dcl13 P Dn lw cl id gl bo), (14, lng pn), (15, ia ri), (16, ia lf), (17, ia wa), (18, ia fo), (19, lng dn), (20, ia ha), (21, ia pa), (22, ia bl), (115, .inr (7, [.int (Int32.ofNat o), .int (Int32.ofNat s), .ref 116, .ref 117, .ref 118, .ref 119])), (116, wrd ws), (117, ia sgl), (118, ia nbl)])) rfl rfl rfl ?_
          refine RT_step (pc2 := 1) rfl (fun _ _ => rfl) ?_
          refine ow_gf rfl rfl rfl hlen rfl ?_
          refine RT_step (pc2 := 7) rfl (fun _ _ => rfl) ?_
          refine rt_acE rfl (by omega) (by omega) ?_
          refine RT_if c ?_
          refine RT_step (pc2 := 19) rfl (fun _ _ => rfl) ?_
          refine RT_step (pc2 := 20) rfl (fun _ _ => rfl) ?_
          refine RT_step (pc2 := 21) rfl (fun _ _ => rfl) ?_
          refine ow_gf rfl rfl rfl hlen rfl ?_
          refine ow_is1 rfl rfl rfl rfl rfl ((x_find14 (ov_hl hlen) (ov_at rfl (ov_lt hlen (by decide))) (by omega) (by omega)).up (by decide)) rfl ?_
          rw [show fdI (fd pn le 0 P 0) = (-1 : Int32) from by rw [e1]; rfl]
          refine RT_step (pc2 := 28) rfl (fun _ _ => rfl) ?_
          refine RT_step (pc2 := 29) rfl (fun _ _ => rfl) ?_
          refine rt_ico rfl ki_m1 ?_
          refine biT_ne rfl rfl ?_
          refine RT_step (pc2 := 34) rfl (fun _ _ => rfl) ?_
          refine rt_ico rfl ki_3 ?_
          refine ow_iv1 rfl rfl rfl rfl hlen rfl rfl rfl ((hx _ (ov_hl hlen) (ov_at rfl (ov_lt hlen (by decide))) (ov_at rfl (ov_lt hlen (by decide)))).up (by decide)) rfl ?_
          refine RT_step (pc2 := 39) rfl (fun _ _ => rfl) ?_
          refine RT_step (pc2 := 40) rfl (fun _ _ => rfl) ?_
          exact ow_irt rfl rfl rfl
        have hy : FR 3 73 [.ref 13, .ref 1] (ov H ((1, tcl n lim a kd pl w le nu tk (Int32.ofNat 0) fp) :: (2, bcl bs) :: [(13, dcl13 P Dn lw cl id gl bo), (14, lng pn), (15, ia ri), (16, ia lf), (17, ia wa), (18, ia fo), (19, lng dn), (20, ia ha), (21, ia pa), (22, ia bl), (115, .inr (7, [.int (Int32.ofNat o), .int (Int32.ofNat s), .ref 116, .ref 117, .ref 118, .ref 119])), (116, wrd ws), (117, ia sgl), (118, ia nbl)])) (some (.int (-1 : Int32)), ov (ov H ((1, tcl n lim a kd pl w le nu tk (Int32.ofNat 0) fp) :: (2, bcl bs) :: [(13, dcl13 P Dn lw cl id gl bo), (14, lng pn), (15, ia ri), (16, ia lf), (17, ia wa), (18, ia fo), (19, lng dn), (20, ia ha), (21, ia pa), (22, ia bl), (115, .inr (7, [.int (Int32.ofNat o), .int (Int32.ofNat s), .ref 116, .ref 117, .ref 118, .ref 119])), (116, wrd ws), (117, ia sgl), (118, ia nbl)])) [(1, T)]) := by
          refine FR_st2 (l2 := ((1, T) :: (2, bcl bs) :: [(13, dcl13 P Dn lw cl id gl bo), (14, lng pn), (15, ia ri), (16, ia lf), (17, ia wa), (18, ia fo), (19, lng dn), (20, ia ha), (21, ia pa), (22, ia bl), (115, .inr (7, [.int (Int32.ofNat o), .int (Int32.ofNat s), .ref 116, .ref 117, .ref 118, .ref 119])), (116, wrd ws), (117, ia sgl), (118, ia nbl)])) rfl rfl rfl ?_
          refine RT_step (pc2 := 1) rfl (fun _ _ => rfl) ?_
          refine RT_step (pc2 := 2) rfl (fun _ _ => rfl) ?_
          refine ow_gf rfl rfl rfl hlen rfl ?_
          refine RT_step (pc2 := 6) rfl (fun _ _ => rfl) ?_
          refine ow_gf rfl rfl rfl hlen rfl ?_
          refine ow_is1 (l2 := ((1, T) :: (2, bcl bs) :: [(13, dcl13 P Dn lw cl id gl bo), (14, lng pn), (15, ia ri), (16, ia lf), (17, ia wa), (18, ia fo), (19, lng dn), (20, ia ha), (21, ia pa), (22, ia bl), (115, .inr (7, [.int (Int32.ofNat o), .int (Int32.ofNat s), .ref 116, .ref 117, .ref 118, .ref 119])), (116, wrd ws), (117, ia sgl), (118, ia nbl)])) rfl rfl rfl rfl rfl (hz.up (by decide)) rfl ?_
          exact ow_irt rfl rfl rfl
        refine FR_st2 (l2 := ((1, T) :: (2, bcl bs) :: [(13, dcl13 P Dn lw cl id gl bo), (14, lng pn), (15, ia ri), (16, ia lf), (17, ia wa), (18, ia fo), (19, lng dn), (20, ia ha), (21, ia pa), (22, ia bl), (115, .inr (7, [.int (Int32.ofNat o), .int (Int32.ofNat s), .ref 116, .ref 117, .ref 118, .ref 119])), (116, wrd ws), (117, ia sgl), (118, ia nbl)])) rfl rfl rfl ?_
        refine RT_step (pc2 := 1) rfl (fun _ _ => rfl) ?_
        refine RT_step (pc2 := 2) rfl (fun _ _ => rfl) ?_
        refine ow_iv1 (l2 := ((1, T) :: (2, bcl bs) :: [(13, dcl13 P Dn lw cl id gl bo), (14, lng pn), (15, ia ri), (16, ia lf), (17, ia wa), (18, ia fo), (19, lng dn), (20, ia ha), (21, ia pa), (22, ia bl), (115, .inr (7, [.int (Int32.ofNat o), .int (Int32.ofNat s), .ref 116, .ref 117, .ref 118, .ref 119])), (116, wrd ws), (117, ia sgl), (118, ia nbl)])) rfl rfl rfl rfl hlen rfl rfl rfl (hy.up (by decide)) rfl ?_
        refine RT_step (pc2 := 6) rfl (fun _ _ => rfl) ?_
        refine RT_step (pc2 := 7) rfl (fun _ _ => rfl) ?_
        refine rt_ico rfl ki_m1 ?_
        refine biT_ne rfl rfl ?_
        refine rt_ico rfl ki_0 ?_
        exact ow_irt rfl rfl rfl
      · have hy : FR 4 257 [.ref 180, .int (Int32.ofNat 0), .int (Int32.ofNat P)] (ov H ((180, mcl (Int32.ofNat 0) (Int32.ofNat 0) n lim a pl (km kd) nm sg (Int32.ofNat 0) qm wd td (posn vs nn o wi tp)) :: (181, mtl ts) :: [(182, ia nw), (187, lng nz), (202, ia nl)])) (some (.int (Int32.ofNat 0)), ov (ov H ((180, mcl (Int32.ofNat 0) (Int32.ofNat 0) n lim a pl (km kd) nm sg (Int32.ofNat 0) qm wd td (posn vs nn o wi tp)) :: (181, mtl ts) :: [(182, ia nw), (187, lng nz), (202, ia nl)])) [(180, M)]) := by
          refine FR_st2 (l2 := ((180, M) :: (181, mtl ts) :: [(182, ia nw), (187, lng nz), (202, ia nl)])) rfl rfl rfl ?_
          refine RT_step (pc2 := 1) rfl (fun _ _ => rfl) ?_
          refine ow_iv1 rfl rfl rfl rfl hlen rfl rfl rfl ((m_isName (ov_hl hlen) (ov_at rfl (ov_lt hlen (by decide))) hk).up (by decide)) rfl ?_
          refine bcF_ne rfl (b01_t hnm) ?_
          refine RT_step (pc2 := 14) rfl (fun _ _ => rfl) ?_
          refine RT_step (pc2 := 15) rfl (fun _ _ => rfl) ?_
          refine ow_gf rfl rfl rfl hlen rfl ?_
          refine RT_step (pc2 := 19) rfl (fun _ _ => rfl) ?_
          refine RT_step (pc2 := 20) rfl (fun _ _ => rfl) ?_
          refine RT_step (pc2 := 21) rfl (fun _ _ => rfl) ?_
          refine ow_gf rfl rfl rfl hlen rfl ?_
          refine ow_is1 rfl rfl rfl rfl rfl ((m_find7 (bs0 := 0) (cnt := P) (ov_hl hlen) (ov_at rfl (ov_lt hlen (by decide))) (by omega) (by omega)).up (by decide)) rfl ?_
          rw [show fdI (fd nz wd 0 P 0) = (-1 : Int32) from by rw [e2]; rfl]
          refine ow_pf (l2 := ((180, mcl (Int32.ofNat 0) (Int32.ofNat 0) n lim a pl (km kd) nm sg (Int32.ofNat 0) qm wd (-1 : Int32) (posn vs nn o wi tp)) :: (181, mtl ts) :: [(182, ia nw), (187, lng nz), (202, ia nl)])) rfl rfl rfl rfl rfl hlen rfl rfl ?_
          refine RT_step (pc2 := 31) rfl (fun _ _ => rfl) ?_
          refine ow_gf rfl rfl rfl hlen rfl ?_
          refine rt_ico rfl ki_m1 ?_
          refine biT_ne rfl rfl ?_
          refine RT_step (pc2 := 39) rfl (fun _ _ => rfl) ?_
          refine rt_ico rfl ki_3 ?_
          refine ow_iv1 (l2 := ((180, M) :: (181, mtl ts) :: [(182, ia nw), (187, lng nz), (202, ia nl)])) rfl rfl rfl rfl hlen rfl rfl rfl ((hm _ (ov_hl hlen) (ov_at rfl (ov_lt hlen (by decide))) (ov_at rfl (ov_lt hlen (by decide)))).up (by decide)) rfl ?_
          exact ow_irt rfl rfl rfl
        refine FR_st2 (l2 := ((180, M) :: (181, mtl ts) :: [(182, ia nw), (187, lng nz), (202, ia nl)])) rfl rfl rfl ?_
        refine RT_step (pc2 := 1) rfl (fun _ _ => rfl) ?_
        refine rt_ico rfl ki_0 ?_
        refine RT_step (pc2 := 3) rfl (fun _ _ => rfl) ?_
        refine ow_gf rfl rfl rfl hlen rfl ?_
        refine rt_ico rfl ki_0 ?_
        refine ow_ialN rfl rfl hv (by omega) hlen rfl ?_
        refine ow_iv1 (l2 := ((180, M) :: (181, mtl ts) :: [(182, ia nw), (187, lng nz), (202, ia nl)])) rfl rfl rfl rfl hlen rfl rfl rfl (hy.up (by decide)) rfl ?_
        refine bcT_ne rfl rfl ?_
        refine rt_ico rfl ki_0 ?_
        exact ow_irt rfl rfl rfl
  · have hnm : (Nat.beq (km kd) 2 && nmB wd 30 0) = false := by rw [w_nm t]; exact decide_eq_false c
    obtain ⟨T, M, f, hx, hm⟩ := s_ref (bs := bs) (ts := ts) (lim := lim) (po := (posn vs nn o wi tp)) (pl := pl) (tk := tk) (td := td) (fp := fp) (plM := qm) t (kk := 1) (by decide) (by decide) (Or.inr rfl)
    refine Or.inl ⟨T, M, f, fun H hlen => ?_, fun H hlen => ?_⟩
    · have hz : FR 2 71 [.ref 1, .ref 14, .int (Int32.ofNat P)] (ov H ((1, tcl n lim a kd pl w le nu tk (Int32.ofNat 0) fp) :: (2, bcl bs) :: [(13, dcl13 P Dn lw cl id gl bo), (14, lng pn), (15, ia ri), (16, ia lf), (17, ia wa), (18, ia fo), (19, lng dn), (20, ia ha), (21, ia pa), (22, ia bl), (115, .inr (7, [.int (Int32.ofNat o), .int (Int32.ofNat s), .ref 116, .ref 117, .ref 118, .ref 119])), (116, wrd ws), (117, ia sgl), (118, ia nbl)])) (some (.int (-1 : Int32)), ov (ov H ((1, tcl n lim a kd pl w le nu tk (Int32.ofNat 0) fp) :: (2, bcl bs) :: [(13, dcl13 P Dn lw cl id gl bo), (14, lng pn), (15, ia ri), (16, ia lf), (17, ia wa), (18, ia fo), (19, lng dn), (20, ia ha), (21, ia pa), (22, ia bl), (115, .inr (7, [.int (Int32.ofNat o), .int (Int32.ofNat s), .ref 116, .ref 117, .ref 118, .ref 119])), (116, wrd ws), (117, ia sgl), (118, ia nbl)])) [(1, T)]) := by
        refine FR_st2 (l2 := ((1, T) :: (2, bcl bs) :: [(13, dcl13 P Dn lw cl id gl bo), (14, lng pn), (15, ia ri), (16, ia lf), (17, ia wa), (18, ia fo), (19, lng dn), (20, ia ha), (21, ia pa), (22, ia bl), (115, .inr (7, [.int (Int32.ofNat o), .int (Int32.ofNat s), .ref 116, .ref 117, .ref 118, .ref 119])), (116, wrd ws), (117, ia sgl), (118, ia nbl)])) rfl rfl rfl ?_
        refine RT_step (pc2 := 1) rfl (fun _ _ => rfl) ?_
        refine ow_gf rfl rfl rfl hlen rfl ?_
        refine RT_step (pc2 := 7) rfl (fun _ _ => rfl) ?_
        refine rt_acE rfl (by omega) (by omega) ?_
        refine RT_el c ?_
        refine RT_step (pc2 := 11) rfl (fun _ _ => rfl) ?_
        refine rt_ico rfl ki_1 ?_
        refine ow_iv1 rfl rfl rfl rfl hlen rfl rfl rfl ((hx _ (ov_hl hlen) (ov_at rfl (ov_lt hlen (by decide))) (ov_at rfl (ov_lt hlen (by decide)))).up (by decide)) rfl ?_
        refine RT_step (pc2 := 16) rfl (fun _ _ => rfl) ?_
        refine rt_ico rfl ki_m1 ?_
        exact ow_irt rfl rfl rfl
      have hy : FR 3 73 [.ref 13, .ref 1] (ov H ((1, tcl n lim a kd pl w le nu tk (Int32.ofNat 0) fp) :: (2, bcl bs) :: [(13, dcl13 P Dn lw cl id gl bo), (14, lng pn), (15, ia ri), (16, ia lf), (17, ia wa), (18, ia fo), (19, lng dn), (20, ia ha), (21, ia pa), (22, ia bl), (115, .inr (7, [.int (Int32.ofNat o), .int (Int32.ofNat s), .ref 116, .ref 117, .ref 118, .ref 119])), (116, wrd ws), (117, ia sgl), (118, ia nbl)])) (some (.int (-1 : Int32)), ov (ov H ((1, tcl n lim a kd pl w le nu tk (Int32.ofNat 0) fp) :: (2, bcl bs) :: [(13, dcl13 P Dn lw cl id gl bo), (14, lng pn), (15, ia ri), (16, ia lf), (17, ia wa), (18, ia fo), (19, lng dn), (20, ia ha), (21, ia pa), (22, ia bl), (115, .inr (7, [.int (Int32.ofNat o), .int (Int32.ofNat s), .ref 116, .ref 117, .ref 118, .ref 119])), (116, wrd ws), (117, ia sgl), (118, ia nbl)])) [(1, T)]) := by
        refine FR_st2 (l2 := ((1, T) :: (2, bcl bs) :: [(13, dcl13 P Dn lw cl id gl bo), (14, lng pn), (15, ia ri), (16, ia lf), (17, ia wa), (18, ia fo), (19, lng dn), (20, ia ha), (21, ia pa), (22, ia bl), (115, .inr (7, [.int (Int32.ofNat o), .int (Int32.ofNat s), .ref 116, .ref 117, .ref 118, .ref 119])), (116, wrd ws), (117, ia sgl), (118, ia nbl)])) rfl rfl rfl ?_
        refine RT_step (pc2 := 1) rfl (fun _ _ => rfl) ?_
        refine RT_step (pc2 := 2) rfl (fun _ _ => rfl) ?_
        refine ow_gf rfl rfl rfl hlen rfl ?_
        refine RT_step (pc2 := 6) rfl (fun _ _ => rfl) ?_
        refine ow_gf rfl rfl rfl hlen rfl ?_
        refine ow_is1 (l2 := ((1, T) :: (2, bcl bs) :: [(13, dcl13 P Dn lw cl id gl bo), (14, lng pn), (15, ia ri), (16, ia lf), (17, ia wa), (18, ia fo), (19, lng dn), (20, ia ha), (21, ia pa), (22, ia bl), (115, .inr (7, [.int (Int32.ofNat o), .int (Int32.ofNat s), .ref 116, .ref 117, .ref 118, .ref 119])), (116, wrd ws), (117, ia sgl), (118, ia nbl)])) rfl rfl rfl rfl rfl (hz.up (by decide)) rfl ?_
        exact ow_irt rfl rfl rfl
      refine FR_st2 (l2 := ((1, T) :: (2, bcl bs) :: [(13, dcl13 P Dn lw cl id gl bo), (14, lng pn), (15, ia ri), (16, ia lf), (17, ia wa), (18, ia fo), (19, lng dn), (20, ia ha), (21, ia pa), (22, ia bl), (115, .inr (7, [.int (Int32.ofNat o), .int (Int32.ofNat s), .ref 116, .ref 117, .ref 118, .ref 119])), (116, wrd ws), (117, ia sgl), (118, ia nbl)])) rfl rfl rfl ?_
      refine RT_step (pc2 := 1) rfl (fun _ _ => rfl) ?_
      refine RT_step (pc2 := 2) rfl (fun _ _ => rfl) ?_
      refine ow_iv1 (l2 := ((1, T) :: (2, bcl bs) :: [(13, dcl13 P Dn lw cl id gl bo), (14, lng pn), (15, ia ri), (16, ia lf), (17, ia wa), (18, ia fo), (19, lng dn), (20, ia ha), (21, ia pa), (22, ia bl), (115, .inr (7, [.int (Int32.ofNat o), .int (Int32.ofNat s), .ref 116, .ref 117, .ref 118, .ref 119])), (116, wrd ws), (117, ia sgl), (118, ia nbl)])) rfl rfl rfl rfl hlen rfl rfl rfl (hy.up (by decide)) rfl ?_
      refine RT_step (pc2 := 6) rfl (fun _ _ => rfl) ?_
      refine RT_step (pc2 := 7) rfl (fun _ _ => rfl) ?_
      refine rt_ico rfl ki_m1 ?_
      refine biT_ne rfl rfl ?_
      refine rt_ico rfl ki_0 ?_
      exact ow_irt rfl rfl rfl
    · have hy : FR 4 257 [.ref 180, .int (Int32.ofNat 0), .int (Int32.ofNat P)] (ov H ((180, mcl (Int32.ofNat 0) (Int32.ofNat 0) n lim a pl (km kd) nm sg (Int32.ofNat 0) qm wd td (posn vs nn o wi tp)) :: (181, mtl ts) :: [(182, ia nw), (187, lng nz), (202, ia nl)])) (some (.int (Int32.ofNat 0)), ov (ov H ((180, mcl (Int32.ofNat 0) (Int32.ofNat 0) n lim a pl (km kd) nm sg (Int32.ofNat 0) qm wd td (posn vs nn o wi tp)) :: (181, mtl ts) :: [(182, ia nw), (187, lng nz), (202, ia nl)])) [(180, M)]) := by
        refine FR_st2 (l2 := ((180, M) :: (181, mtl ts) :: [(182, ia nw), (187, lng nz), (202, ia nl)])) rfl rfl rfl ?_
        refine RT_step (pc2 := 1) rfl (fun _ _ => rfl) ?_
        refine ow_iv1 rfl rfl rfl rfl hlen rfl rfl rfl ((m_isName (ov_hl hlen) (ov_at rfl (ov_lt hlen (by decide))) hk).up (by decide)) rfl ?_
        refine bcT_ne rfl (b01_f hnm) ?_
        refine RT_step (pc2 := 8) rfl (fun _ _ => rfl) ?_
        refine rt_ico rfl ki_1 ?_
        refine ow_iv1 (l2 := ((180, M) :: (181, mtl ts) :: [(182, ia nw), (187, lng nz), (202, ia nl)])) rfl rfl rfl rfl hlen rfl rfl rfl ((hm _ (ov_hl hlen) (ov_at rfl (ov_lt hlen (by decide))) (ov_at rfl (ov_lt hlen (by decide)))).up (by decide)) rfl ?_
        exact ow_irt rfl rfl rfl
      refine FR_st2 (l2 := ((180, M) :: (181, mtl ts) :: [(182, ia nw), (187, lng nz), (202, ia nl)])) rfl rfl rfl ?_
      refine RT_step (pc2 := 1) rfl (fun _ _ => rfl) ?_
      refine rt_ico rfl ki_0 ?_
      refine RT_step (pc2 := 3) rfl (fun _ _ => rfl) ?_
      refine ow_gf rfl rfl rfl hlen rfl ?_
      refine rt_ico rfl ki_0 ?_
      refine ow_ialN rfl rfl hv (by omega) hlen rfl ?_
      refine ow_iv1 (l2 := ((180, M) :: (181, mtl ts) :: [(182, ia nw), (187, lng nz), (202, ia nl)])) rfl rfl rfl rfl hlen rfl rfl rfl (hy.up (by decide)) rfl ?_
      refine bcT_ne rfl rfl ?_
      refine rt_ico rfl ki_0 ?_
      exact ow_irt rfl rfl rfl
theorem sm13_115 {B : Nat → Nat} {bs ts : List Int32} {vs : Nat → Value} {n lim : Nat} {k a kd pl w : Nat} {le : Int64} {nu tk td fp nm sg qm : Int32} {wd : Int64} {o s nn wi tp : Nat} {ws : List (Option Nat)} {sgl nbl nl nw : List Int32} {nz : List Int64} {P : Nat} {Dn : Nat} {lw : Int32} {cl : Int32} {id : Int32} {gl : Nat} {bo : Nat} {pn : List Int64} {ri : List Int32} {lf : List Int32} {wa : List Int32} {fo : List Int32} {dn : List Int64} {ha : List Int32} {pa : List Int32} {bl : List Int32} (hB : BY bs B) (hM : MY ts B) (hb : ∀ i, B i < 256) (hn : n ≤ 940) (hl : lim ≤ 940) (t : TF k n a kd w le nu nm sg wd) (sx : SX s ws sgl nbl) (ln : nl.length = 240) (hd : nn < 60) (ho : o ≤ 20) (hw8 : wi ≤ 8) {w0 j0 : Nat} (hw0 : w0 < 32) (hj0 : j0 < 100) : (∃ T M, FC n lim (posn vs nn o wi tp) T M ∧ LSn 5 144 [.ref 115, .ref 1, .retAddr w0] 5 248 [.ref 180, .int (Int32.ofNat j0)] ((1, tcl n lim a kd pl w le nu tk (Int32.ofNat 0) fp) :: (2, bcl bs) :: [(13, dcl13 P Dn lw cl id gl bo), (14, lng pn), (15, ia ri), (16, ia lf), (17, ia wa), (18, ia fo), (19, lng dn), (20, ia ha), (21, ia pa), (22, ia bl), (115, .inr (7, [.int (Int32.ofNat o), .int (Int32.ofNat s), .ref 116, .ref 117, .ref 118, .ref 119])), (116, wrd ws), (117, ia sgl), (118, ia nbl)]) ((180, mcl (Int32.ofNat 0) (Int32.ofNat 0) n lim a pl (km kd) nm sg (Int32.ofNat 0) qm wd td (posn vs nn o wi tp)) :: (181, mtl ts) :: [(182, ia nw), (187, lng nz), (202, ia nl)]) (.int (Int32.ofNat 0)) (.int (Int32.ofNat 0)) [(1, T), (115, .inr (7, [.int (Int32.ofNat o), .int (Int32.ofNat s), .ref 116, .ref 117, .ref 118, .ref 119])), (116, wrd ws), (117, ia sgl), (118, ia nbl)] [(180, M), (202, ia nl)]) ∨ (∃ (tk2 td2 : Int32) (T M : AE) (s2 : Nat) (ws2 : List (Option Nat)) (sl2 nb2 nl2 : List Int32), TC n lim (posn vs (nn + 1) o wi nn) (k + 2) tk2 td2 T M ∧ SX s2 ws2 sl2 nb2 ∧ nl2.length = 240 ∧ LSn 5 144 [.ref 115, .ref 1, .retAddr w0] 5 248 [.ref 180, .int (Int32.ofNat j0)] ((1, tcl n lim a kd pl w le nu tk (Int32.ofNat 0) fp) :: (2, bcl bs) :: [(13, dcl13 P Dn lw cl id gl bo), (14, lng pn), (15, ia ri), (16, ia lf), (17, ia wa), (18, ia fo), (19, lng dn), (20, ia ha), (21, ia pa), (22, ia bl), (115, .inr (7, [.int (Int32.ofNat o), .int (Int32.ofNat s), .ref 116, .ref 117, .ref 118, .ref 119])), (116, wrd ws), (117, ia sgl), (118, ia nbl)]) ((180, mcl (Int32.ofNat 0) (Int32.ofNat 0) n lim a pl (km kd) nm sg (Int32.ofNat 0) qm wd td (posn vs nn o wi tp)) :: (181, mtl ts) :: [(182, ia nw), (187, lng nz), (202, ia nl)]) (.int (Int32.ofNat 1)) (.int (Int32.ofNat 1)) [(1, T), (115, .inr (7, [.int (Int32.ofNat o), .int (Int32.ofNat s2), .ref 116, .ref 117, .ref 118, .ref 119])), (116, wrd ws2), (117, ia sl2), (118, ia nb2)] [(180, M), (202, ia nl2)]) := by
  have hk := (km_is kd t.2.2.2.1).2.2.2.2.2
  obtain ⟨k2_, k1_, k3_, k4_, k0_, k10⟩ := km_is kd t.2.2.2.1
  obtain ⟨sv, sv1, sv2, sv3⟩ : ∃ sv : Nat, sv < 256 ∧ (kd = 3 → nu = Int32.ofNat sv) ∧ (km kd = 4 → sg = Int32.ofNat sv) := by
    by_cases c3 : kd = 3
    · obtain ⟨c, c1, c2, c4⟩ := t.2.2.2.2.2.2.2.2 c3
      exact ⟨c, c1, fun _ => c2, fun _ => c4⟩
    · exact ⟨0, by decide, fun e => absurd e c3, fun e => absurd (k4_.mp e) c3⟩
  have hk5 : kd < 10 := by have := t.2.2.2.1; omega
  have bq : ∀ c : Nat, (Nat.beq (km kd) 4 && Nat.beq sv c) = (Nat.beq kd 3 && Nat.beq sv c) := by
    intro c
    by_cases c3 : kd = 3
    · rw [c3]; rfl
    · rw [nbqf c3, nbqf (fun e => c3 (k4_.mp e))]
  by_cases cc : (Nat.beq kd 3 && Nat.beq sv 60) = true ∨ (Nat.beq kd 3 && Nat.beq sv 61) = true ∨ (Nat.beq kd 3 && Nat.beq sv 62) = true
  · have k3 : kd = 3 := by
      rcases cc with e | e | e <;> (rw [Bool.and_eq_true] at e; exact Nat.eq_of_beq_eq_true e.1)
    obtain ⟨T1, M1, c1, x1, m1⟩ := s_adv hB hM hb hn hl (po := (posn vs nn o wi tp)) (pl := pl) (tk := tk) (td := td) (fp := fp) (plM := qm) t (by omega) (by omega)
    obtain ⟨a1, kd1, pl1, w1, le1, nu1, fp1, nm1, sg1, qm1, wd1, rfl, rfl, t1⟩ := c1
    have e1 : nu = Int32.ofNat sv := sv2 k3
    have e2 : sg = Int32.ofNat sv := sv3 (k4_.mpr k3)
    rcases s_num hB hM hb hn hl (po := (posn vs nn o wi tp)) (pl := pl1) (tk := tk) (td := td) (fp := fp1) (plM := qm1) t1 (lo := 0) (hi := 999) (by decide) (by decide) with ⟨T, M, f, hx, hm⟩ | ⟨v, T3, M3, v1, v2, c3, hx, hm⟩
    · refine Or.inl ⟨T, M, f, ?_⟩
      rcases sgn3 cc with g | ⟨g1, g⟩ | ⟨g1, g2, g⟩
      · refine ⟨fun H hlen => ?_, fun H hlen => ?_⟩
        · refine FR_st2 (l2 := ((1, T) :: (2, bcl bs) :: [(13, dcl13 P Dn lw cl id gl bo), (14, lng pn), (15, ia ri), (16, ia lf), (17, ia wa), (18, ia fo), (19, lng dn), (20, ia ha), (21, ia pa), (22, ia bl), (115, .inr (7, [.int (Int32.ofNat o), .int (Int32.ofNat s), .ref 116, .ref 117, .ref 118, .ref 119])), (116, wrd ws), (117, ia sgl), (118, ia nbl)])) rfl rfl rfl ?_
          refine RT_step (pc2 := 1) rfl (fun _ _ => rfl) ?_
          refine ow_gf rfl rfl rfl hlen rfl ?_
          refine RT_step (pc2 := 5) rfl (fun _ _ => rfl) ?_
          refine RT_step (pc2 := 6) rfl (fun _ _ => rfl) ?_
          refine rt_bip rfl k8_60 ?_
          refine ow_iv1 (l2 := ((1, tcl n lim a kd pl w le nu tk (Int32.ofNat 0) fp) :: (2, bcl bs) :: [(13, dcl13 P Dn lw cl id gl bo), (14, lng pn), (15, ia ri), (16, ia lf), (17, ia wa), (18, ia fo), (19, lng dn), (20, ia ha), (21, ia pa), (22, ia bl), (115, .inr (7, [.int (Int32.ofNat o), .int (Int32.ofNat s), .ref 116, .ref 117, .ref 118, .ref 119])), (116, wrd ws), (117, ia sgl), (118, ia nbl)])) rfl rfl rfl rfl hlen rfl rfl rfl ((x_isMarkHere (ov_hl hlen) (ov_at rfl (ov_lt hlen (by decide))) hk5 (c := 60) (s := sv) (by decide) sv1 sv2).up (by decide)) rfl ?_
          refine bcF_ne rfl (b01_t g) ?_
          refine RT_step (pc2 := 39) rfl (fun _ _ => rfl) ?_
          refine ow_iv0 (l2 := ((1, tcl n lim a1 kd1 pl1 w1 le1 nu1 tk (Int32.ofNat 0) fp1) :: (2, bcl bs) :: [(13, dcl13 P Dn lw cl id gl bo), (14, lng pn), (15, ia ri), (16, ia lf), (17, ia wa), (18, ia fo), (19, lng dn), (20, ia ha), (21, ia pa), (22, ia bl), (115, .inr (7, [.int (Int32.ofNat o), .int (Int32.ofNat s), .ref 116, .ref 117, .ref 118, .ref 119])), (116, wrd ws), (117, ia sgl), (118, ia nbl)])) rfl rfl rfl rfl hlen rfl rfl rfl ((x1 _ (ov_hl hlen) (ov_at rfl (ov_lt hlen (by decide))) (ov_at rfl (ov_lt hlen (by decide)))).up (by decide)) rfl ?_
          refine RT_step (pc2 := 43) rfl (fun _ _ => rfl) ?_
          refine rt_ico rfl ki_0 ?_
          refine rt_sip rfl k16_999 ?_
          refine ow_iv1 (l2 := ((1, T) :: (2, bcl bs) :: [(13, dcl13 P Dn lw cl id gl bo), (14, lng pn), (15, ia ri), (16, ia lf), (17, ia wa), (18, ia fo), (19, lng dn), (20, ia ha), (21, ia pa), (22, ia bl), (115, .inr (7, [.int (Int32.ofNat o), .int (Int32.ofNat s), .ref 116, .ref 117, .ref 118, .ref 119])), (116, wrd ws), (117, ia sgl), (118, ia nbl)])) rfl rfl rfl rfl hlen rfl rfl rfl ((hx _ (ov_hl hlen) (ov_at rfl (ov_lt hlen (by decide))) (ov_at rfl (ov_lt hlen (by decide)))).up (by decide)) rfl ?_
          refine bcT_ne rfl rfl ?_
          refine rt_ico rfl ki_0 ?_
          exact ow_irt rfl rfl rfl
        · refine FR_st2 (l2 := ((180, M) :: (181, mtl ts) :: [(182, ia nw), (187, lng nz), (202, ia nl)])) rfl rfl rfl ?_
          refine RT_step (pc2 := 1) rfl (fun _ _ => rfl) ?_
          refine rt_bip rfl k8_60 ?_
          refine ow_iv1 (l2 := ((180, mcl (Int32.ofNat 0) (Int32.ofNat 0) n lim a pl (km kd) nm sg (Int32.ofNat 0) qm wd td (posn vs nn o wi tp)) :: (181, mtl ts) :: [(182, ia nw), (187, lng nz), (202, ia nl)])) rfl rfl rfl rfl hlen rfl rfl rfl ((m_isSign (ov_hl hlen) (ov_at rfl (ov_lt hlen (by decide))) k10 (c := 60) (s := sv) (by decide) sv1 sv3).up (by decide)) rfl ?_
          refine bcF_ne rfl (b01_t ((bq 60).trans g)) ?_
          refine RT_step (pc2 := 34) rfl (fun _ _ => rfl) ?_
          refine ow_gf rfl rfl rfl hlen rfl ?_
          refine RT_step (pc2 := 38) rfl (fun _ _ => rfl) ?_
          refine RT_step (pc2 := 39) rfl (fun _ _ => rfl) ?_
          refine ow_iv0 (l2 := ((180, mcl (Int32.ofNat 0) (Int32.ofNat 0) n lim a1 pl1 (km kd1) nm1 sg1 (Int32.ofNat 0) qm1 wd1 td (posn vs nn o wi tp)) :: (181, mtl ts) :: [(182, ia nw), (187, lng nz), (202, ia nl)])) rfl rfl rfl rfl hlen rfl rfl rfl ((m1 _ (ov_hl hlen) (ov_at rfl (ov_lt hlen (by decide))) (ov_at rfl (ov_lt hlen (by decide)))).up (by decide)) rfl ?_
          refine RT_step (pc2 := 43) rfl (fun _ _ => rfl) ?_
          refine rt_ico rfl ki_0 ?_
          refine rt_sip rfl k16_999 ?_
          refine ow_iv1 (l2 := ((180, M) :: (181, mtl ts) :: [(182, ia nw), (187, lng nz), (202, ia nl)])) rfl rfl rfl rfl hlen rfl rfl rfl ((hm _ (ov_hl hlen) (ov_at rfl (ov_lt hlen (by decide))) (ov_at rfl (ov_lt hlen (by decide)))).up (by decide)) rfl ?_
          refine bcT_ne rfl rfl ?_
          refine rt_ico rfl ki_0 ?_
          exact ow_irt rfl rfl rfl
      · refine ⟨fun H hlen => ?_, fun H hlen => ?_⟩
        · refine FR_st2 (l2 := ((1, T) :: (2, bcl bs) :: [(13, dcl13 P Dn lw cl id gl bo), (14, lng pn), (15, ia ri), (16, ia lf), (17, ia wa), (18, ia fo), (19, lng dn), (20, ia ha), (21, ia pa), (22, ia bl), (115, .inr (7, [.int (Int32.ofNat o), .int (Int32.ofNat s), .ref 116, .ref 117, .ref 118, .ref 119])), (116, wrd ws), (117, ia sgl), (118, ia nbl)])) rfl rfl rfl ?_
          refine RT_step (pc2 := 1) rfl (fun _ _ => rfl) ?_
          refine ow_gf rfl rfl rfl hlen rfl ?_
          refine RT_step (pc2 := 5) rfl (fun _ _ => rfl) ?_
          refine RT_step (pc2 := 6) rfl (fun _ _ => rfl) ?_
          refine rt_bip rfl k8_60 ?_
          refine ow_iv1 (l2 := ((1, tcl n lim a kd pl w le nu tk (Int32.ofNat 0) fp) :: (2, bcl bs) :: [(13, dcl13 P Dn lw cl id gl bo), (14, lng pn), (15, ia ri), (16, ia lf), (17, ia wa), (18, ia fo), (19, lng dn), (20, ia ha), (21, ia pa), (22, ia bl), (115, .inr (7, [.int (Int32.ofNat o), .int (Int32.ofNat s), .ref 116, .ref 117, .ref 118, .ref 119])), (116, wrd ws), (117, ia sgl), (118, ia nbl)])) rfl rfl rfl rfl hlen rfl rfl rfl ((x_isMarkHere (ov_hl hlen) (ov_at rfl (ov_lt hlen (by decide))) hk5 (c := 60) (s := sv) (by decide) sv1 sv2).up (by decide)) rfl ?_
          refine bcT_ne rfl (b01_f g1) ?_
          refine RT_step (pc2 := 15) rfl (fun _ _ => rfl) ?_
          refine rt_bip rfl k8_61 ?_
          refine ow_iv1 (l2 := ((1, tcl n lim a kd pl w le nu tk (Int32.ofNat 0) fp) :: (2, bcl bs) :: [(13, dcl13 P Dn lw cl id gl bo), (14, lng pn), (15, ia ri), (16, ia lf), (17, ia wa), (18, ia fo), (19, lng dn), (20, ia ha), (21, ia pa), (22, ia bl), (115, .inr (7, [.int (Int32.ofNat o), .int (Int32.ofNat s), .ref 116, .ref 117, .ref 118, .ref 119])), (116, wrd ws), (117, ia sgl), (118, ia nbl)])) rfl rfl rfl rfl hlen rfl rfl rfl ((x_isMarkHere (ov_hl hlen) (ov_at rfl (ov_lt hlen (by decide))) hk5 (c := 61) (s := sv) (by decide) sv1 sv2).up (by decide)) rfl ?_
          refine bcF_ne rfl (b01_t g) ?_
          refine RT_step (pc2 := 39) rfl (fun _ _ => rfl) ?_
          refine ow_iv0 (l2 := ((1, tcl n lim a1 kd1 pl1 w1 le1 nu1 tk (Int32.ofNat 0) fp1) :: (2, bcl bs) :: [(13, dcl13 P Dn lw cl id gl bo), (14, lng pn), (15, ia ri), (16, ia lf), (17, ia wa), (18, ia fo), (19, lng dn), (20, ia ha), (21, ia pa), (22, ia bl), (115, .inr (7, [.int (Int32.ofNat o), .int (Int32.ofNat s), .ref 116, .ref 117, .ref 118, .ref 119])), (116, wrd ws), (117, ia sgl), (118, ia nbl)])) rfl rfl rfl rfl hlen rfl rfl rfl ((x1 _ (ov_hl hlen) (ov_at rfl (ov_lt hlen (by decide))) (ov_at rfl (ov_lt hlen (by decide)))).up (by decide)) rfl ?_
          refine RT_step (pc2 := 43) rfl (fun _ _ => rfl) ?_
          refine rt_ico rfl ki_0 ?_
          refine rt_sip rfl k16_999 ?_
          refine ow_iv1 (l2 := ((1, T) :: (2, bcl bs) :: [(13, dcl13 P Dn lw cl id gl bo), (14, lng pn), (15, ia ri), (16, ia lf), (17, ia wa), (18, ia fo), (19, lng dn), (20, ia ha), (21, ia pa), (22, ia bl), (115, .inr (7, [.int (Int32.ofNat o), .int (Int32.ofNat s), .ref 116, .ref 117, .ref 118, .ref 119])), (116, wrd ws), (117, ia sgl), (118, ia nbl)])) rfl rfl rfl rfl hlen rfl rfl rfl ((hx _ (ov_hl hlen) (ov_at rfl (ov_lt hlen (by decide))) (ov_at rfl (ov_lt hlen (by decide)))).up (by decide)) rfl ?_
          refine bcT_ne rfl rfl ?_
          refine rt_ico rfl ki_0 ?_
          exact ow_irt rfl rfl rfl
        · refine FR_st2 (l2 := ((180, M) :: (181, mtl ts) :: [(182, ia nw), (187, lng nz), (202, ia nl)])) rfl rfl rfl ?_
          refine RT_step (pc2 := 1) rfl (fun _ _ => rfl) ?_
          refine rt_bip rfl k8_60 ?_
          refine ow_iv1 (l2 := ((180, mcl (Int32.ofNat 0) (Int32.ofNat 0) n lim a pl (km kd) nm sg (Int32.ofNat 0) qm wd td (posn vs nn o wi tp)) :: (181, mtl ts) :: [(182, ia nw), (187, lng nz), (202, ia nl)])) rfl rfl rfl rfl hlen rfl rfl rfl ((m_isSign (ov_hl hlen) (ov_at rfl (ov_lt hlen (by decide))) k10 (c := 60) (s := sv) (by decide) sv1 sv3).up (by decide)) rfl ?_
          refine bcT_ne rfl (b01_f ((bq 60).trans g1)) ?_
          refine RT_step (pc2 := 10) rfl (fun _ _ => rfl) ?_
          refine rt_bip rfl k8_61 ?_
          refine ow_iv1 (l2 := ((180, mcl (Int32.ofNat 0) (Int32.ofNat 0) n lim a pl (km kd) nm sg (Int32.ofNat 0) qm wd td (posn vs nn o wi tp)) :: (181, mtl ts) :: [(182, ia nw), (187, lng nz), (202, ia nl)])) rfl rfl rfl rfl hlen rfl rfl rfl ((m_isSign (ov_hl hlen) (ov_at rfl (ov_lt hlen (by decide))) k10 (c := 61) (s := sv) (by decide) sv1 sv3).up (by decide)) rfl ?_
          refine bcF_ne rfl (b01_t ((bq 61).trans g)) ?_
          refine RT_step (pc2 := 34) rfl (fun _ _ => rfl) ?_
          refine ow_gf rfl rfl rfl hlen rfl ?_
          refine RT_step (pc2 := 38) rfl (fun _ _ => rfl) ?_
          refine RT_step (pc2 := 39) rfl (fun _ _ => rfl) ?_
          refine ow_iv0 (l2 := ((180, mcl (Int32.ofNat 0) (Int32.ofNat 0) n lim a1 pl1 (km kd1) nm1 sg1 (Int32.ofNat 0) qm1 wd1 td (posn vs nn o wi tp)) :: (181, mtl ts) :: [(182, ia nw), (187, lng nz), (202, ia nl)])) rfl rfl rfl rfl hlen rfl rfl rfl ((m1 _ (ov_hl hlen) (ov_at rfl (ov_lt hlen (by decide))) (ov_at rfl (ov_lt hlen (by decide)))).up (by decide)) rfl ?_
          refine RT_step (pc2 := 43) rfl (fun _ _ => rfl) ?_
          refine rt_ico rfl ki_0 ?_
          refine rt_sip rfl k16_999 ?_
          refine ow_iv1 (l2 := ((180, M) :: (181, mtl ts) :: [(182, ia nw), (187, lng nz), (202, ia nl)])) rfl rfl rfl rfl hlen rfl rfl rfl ((hm _ (ov_hl hlen) (ov_at rfl (ov_lt hlen (by decide))) (ov_at rfl (ov_lt hlen (by decide)))).up (by decide)) rfl ?_
          refine bcT_ne rfl rfl ?_
          refine rt_ico rfl ki_0 ?_
          exact ow_irt rfl rfl rfl
      · refine ⟨fun H hlen => ?_, fun H hlen => ?_⟩
        · refine FR_st2 (l2 := ((1, T) :: (2, bcl bs) :: [(13, dcl13 P Dn lw cl id gl bo), (14, lng pn), (15, ia ri), (16, ia lf), (17, ia wa), (18, ia fo), (19, lng dn), (20, ia ha), (21, ia pa), (22, ia bl), (115, .inr (7, [.int (Int32.ofNat o), .int (Int32.ofNat s), .ref 116, .ref 117, .ref 118, .ref 119])), (116, wrd ws), (117, ia sgl), (118, ia nbl)])) rfl rfl rfl ?_
          refine RT_step (pc2 := 1) rfl (fun _ _ => rfl) ?_
          refine ow_gf rfl rfl rfl hlen rfl ?_
          refine RT_step (pc2 := 5) rfl (fun _ _ => rfl) ?_
          refine RT_step (pc2 := 6) rfl (fun _ _ => rfl) ?_
          refine rt_bip rfl k8_60 ?_
          refine ow_iv1 (l2 := ((1, tcl n lim a kd pl w le nu tk (Int32.ofNat 0) fp) :: (2, bcl bs) :: [(13, dcl13 P Dn lw cl id gl bo), (14, lng pn), (15, ia ri), (16, ia lf), (17, ia wa), (18, ia fo), (19, lng dn), (20, ia ha), (21, ia pa), (22, ia bl), (115, .inr (7, [.int (Int32.ofNat o), .int (Int32.ofNat s), .ref 116, .ref 117, .ref 118, .ref 119])), (116, wrd ws), (117, ia sgl), (118, ia nbl)])) rfl rfl rfl rfl hlen rfl rfl rfl ((x_isMarkHere (ov_hl hlen) (ov_at rfl (ov_lt hlen (by decide))) hk5 (c := 60) (s := sv) (by decide) sv1 sv2).up (by decide)) rfl ?_
          refine bcT_ne rfl (b01_f g1) ?_
          refine RT_step (pc2 := 15) rfl (fun _ _ => rfl) ?_
          refine rt_bip rfl k8_61 ?_
          refine ow_iv1 (l2 := ((1, tcl n lim a kd pl w le nu tk (Int32.ofNat 0) fp) :: (2, bcl bs) :: [(13, dcl13 P Dn lw cl id gl bo), (14, lng pn), (15, ia ri), (16, ia lf), (17, ia wa), (18, ia fo), (19, lng dn), (20, ia ha), (21, ia pa), (22, ia bl), (115, .inr (7, [.int (Int32.ofNat o), .int (Int32.ofNat s), .ref 116, .ref 117, .ref 118, .ref 119])), (116, wrd ws), (117, ia sgl), (118, ia nbl)])) rfl rfl rfl rfl hlen rfl rfl rfl ((x_isMarkHere (ov_hl hlen) (ov_at rfl (ov_lt hlen (by decide))) hk5 (c := 61) (s := sv) (by decide) sv1 sv2).up (by decide)) rfl ?_
          refine bcT_ne rfl (b01_f g2) ?_
          refine RT_step (pc2 := 24) rfl (fun _ _ => rfl) ?_
          refine rt_bip rfl k8_62 ?_
          refine ow_iv1 (l2 := ((1, tcl n lim a kd pl w le nu tk (Int32.ofNat 0) fp) :: (2, bcl bs) :: [(13, dcl13 P Dn lw cl id gl bo), (14, lng pn), (15, ia ri), (16, ia lf), (17, ia wa), (18, ia fo), (19, lng dn), (20, ia ha), (21, ia pa), (22, ia bl), (115, .inr (7, [.int (Int32.ofNat o), .int (Int32.ofNat s), .ref 116, .ref 117, .ref 118, .ref 119])), (116, wrd ws), (117, ia sgl), (118, ia nbl)])) rfl rfl rfl rfl hlen rfl rfl rfl ((x_isMarkHere (ov_hl hlen) (ov_at rfl (ov_lt hlen (by decide))) hk5 (c := 62) (s := sv) (by decide) sv1 sv2).up (by decide)) rfl ?_
          refine bcF_ne rfl (b01_t g) ?_
          refine RT_step (pc2 := 39) rfl (fun _ _ => rfl) ?_
          refine ow_iv0 (l2 := ((1, tcl n lim a1 kd1 pl1 w1 le1 nu1 tk (Int32.ofNat 0) fp1) :: (2, bcl bs) :: [(13, dcl13 P Dn lw cl id gl bo), (14, lng pn), (15, ia ri), (16, ia lf), (17, ia wa), (18, ia fo), (19, lng dn), (20, ia ha), (21, ia pa), (22, ia bl), (115, .inr (7, [.int (Int32.ofNat o), .int (Int32.ofNat s), .ref 116, .ref 117, .ref 118, .ref 119])), (116, wrd ws), (117, ia sgl), (118, ia nbl)])) rfl rfl rfl rfl hlen rfl rfl rfl ((x1 _ (ov_hl hlen) (ov_at rfl (ov_lt hlen (by decide))) (ov_at rfl (ov_lt hlen (by decide)))).up (by decide)) rfl ?_
          refine RT_step (pc2 := 43) rfl (fun _ _ => rfl) ?_
          refine rt_ico rfl ki_0 ?_
          refine rt_sip rfl k16_999 ?_
          refine ow_iv1 (l2 := ((1, T) :: (2, bcl bs) :: [(13, dcl13 P Dn lw cl id gl bo), (14, lng pn), (15, ia ri), (16, ia lf), (17, ia wa), (18, ia fo), (19, lng dn), (20, ia ha), (21, ia pa), (22, ia bl), (115, .inr (7, [.int (Int32.ofNat o), .int (Int32.ofNat s), .ref 116, .ref 117, .ref 118, .ref 119])), (116, wrd ws), (117, ia sgl), (118, ia nbl)])) rfl rfl rfl rfl hlen rfl rfl rfl ((hx _ (ov_hl hlen) (ov_at rfl (ov_lt hlen (by decide))) (ov_at rfl (ov_lt hlen (by decide)))).up (by decide)) rfl ?_
          refine bcT_ne rfl rfl ?_
          refine rt_ico rfl ki_0 ?_
          exact ow_irt rfl rfl rfl
        · refine FR_st2 (l2 := ((180, M) :: (181, mtl ts) :: [(182, ia nw), (187, lng nz), (202, ia nl)])) rfl rfl rfl ?_
          refine RT_step (pc2 := 1) rfl (fun _ _ => rfl) ?_
          refine rt_bip rfl k8_60 ?_
          refine ow_iv1 (l2 := ((180, mcl (Int32.ofNat 0) (Int32.ofNat 0) n lim a pl (km kd) nm sg (Int32.ofNat 0) qm wd td (posn vs nn o wi tp)) :: (181, mtl ts) :: [(182, ia nw), (187, lng nz), (202, ia nl)])) rfl rfl rfl rfl hlen rfl rfl rfl ((m_isSign (ov_hl hlen) (ov_at rfl (ov_lt hlen (by decide))) k10 (c := 60) (s := sv) (by decide) sv1 sv3).up (by decide)) rfl ?_
          refine bcT_ne rfl (b01_f ((bq 60).trans g1)) ?_
          refine RT_step (pc2 := 10) rfl (fun _ _ => rfl) ?_
          refine rt_bip rfl k8_61 ?_
          refine ow_iv1 (l2 := ((180, mcl (Int32.ofNat 0) (Int32.ofNat 0) n lim a pl (km kd) nm sg (Int32.ofNat 0) qm wd td (posn vs nn o wi tp)) :: (181, mtl ts) :: [(182, ia nw), (187, lng nz), (202, ia nl)])) rfl rfl rfl rfl hlen rfl rfl rfl ((m_isSign (ov_hl hlen) (ov_at rfl (ov_lt hlen (by decide))) k10 (c := 61) (s := sv) (by decide) sv1 sv3).up (by decide)) rfl ?_
          refine bcT_ne rfl (b01_f ((bq 61).trans g2)) ?_
          refine RT_step (pc2 := 19) rfl (fun _ _ => rfl) ?_
          refine rt_bip rfl k8_62 ?_
          refine ow_iv1 (l2 := ((180, mcl (Int32.ofNat 0) (Int32.ofNat 0) n lim a pl (km kd) nm sg (Int32.ofNat 0) qm wd td (posn vs nn o wi tp)) :: (181, mtl ts) :: [(182, ia nw), (187, lng nz), (202, ia nl)])) rfl rfl rfl rfl hlen rfl rfl rfl ((m_isSign (ov_hl hlen) (ov_at rfl (ov_lt hlen (by decide))) k10 (c := 62) (s := sv) (by decide) sv1 sv3).up (by decide)) rfl ?_
          refine bcF_ne rfl (b01_t ((bq 62).trans g)) ?_
          refine RT_step (pc2 := 34) rfl (fun _ _ => rfl) ?_
          refine ow_gf rfl rfl rfl hlen rfl ?_
          refine RT_step (pc2 := 38) rfl (fun _ _ => rfl) ?_
          refine RT_step (pc2 := 39) rfl (fun _ _ => rfl) ?_
          refine ow_iv0 (l2 := ((180, mcl (Int32.ofNat 0) (Int32.ofNat 0) n lim a1 pl1 (km kd1) nm1 sg1 (Int32.ofNat 0) qm1 wd1 td (posn vs nn o wi tp)) :: (181, mtl ts) :: [(182, ia nw), (187, lng nz), (202, ia nl)])) rfl rfl rfl rfl hlen rfl rfl rfl ((m1 _ (ov_hl hlen) (ov_at rfl (ov_lt hlen (by decide))) (ov_at rfl (ov_lt hlen (by decide)))).up (by decide)) rfl ?_
          refine RT_step (pc2 := 43) rfl (fun _ _ => rfl) ?_
          refine rt_ico rfl ki_0 ?_
          refine rt_sip rfl k16_999 ?_
          refine ow_iv1 (l2 := ((180, M) :: (181, mtl ts) :: [(182, ia nw), (187, lng nz), (202, ia nl)])) rfl rfl rfl rfl hlen rfl rfl rfl ((hm _ (ov_hl hlen) (ov_at rfl (ov_lt hlen (by decide))) (ov_at rfl (ov_lt hlen (by decide)))).up (by decide)) rfl ?_
          refine bcT_ne rfl rfl ?_
          refine rt_ico rfl ki_0 ?_
          exact ow_irt rfl rfl rfl
    · obtain ⟨a3, kd3, pl3, w3, le3, nu3, fp3, nm3, sg3, qm3, wd3, rfl, rfl, t3⟩ := c3
      obtain ⟨s2, ws2, sl2, nb2, sx2, hadd⟩ := sx_add115 sx hw0 nu (Int32.ofNat v)
      refine Or.inr ⟨(Int32.ofNat v), (Int32.ofNat v), tcl n lim a3 kd3 pl3 w3 le3 nu3 (Int32.ofNat v) (Int32.ofNat 0) fp3, mcl (Int32.ofNat 0) (Int32.ofNat 0) n lim a3 pl3 (km kd3) nm3 sg3 (Int32.ofNat 0) qm3 wd3 (Int32.ofNat v) (posn vs (nn + 1) o wi nn), s2, ws2, sl2, nb2, ((((nl.set (4 * nn) (Int32.ofNat (50 + j0))).set (4 * nn + 1) (Int32.ofNat 0)).set (4 * nn + 2) (Int32.ofNat v)).set (4 * nn + 3) sg), tf_td t3, sx2, (by simp only [List.length_set]; exact ln), ?_⟩
      rcases sgn3 cc with g | ⟨g1, g⟩ | ⟨g1, g2, g⟩
      · refine ⟨fun H hlen => ?_, fun H hlen => ?_⟩
        · refine FR_st2 (l2 := ((1, tcl n lim a3 kd3 pl3 w3 le3 nu3 (Int32.ofNat v) (Int32.ofNat 0) fp3) :: (2, bcl bs) :: [(13, dcl13 P Dn lw cl id gl bo), (14, lng pn), (15, ia ri), (16, ia lf), (17, ia wa), (18, ia fo), (19, lng dn), (20, ia ha), (21, ia pa), (22, ia bl), (115, .inr (7, [.int (Int32.ofNat o), .int (Int32.ofNat s2), .ref 116, .ref 117, .ref 118, .ref 119])), (116, wrd ws2), (117, ia sl2), (118, ia nb2)])) rfl rfl rfl ?_
          refine RT_step (pc2 := 1) rfl (fun _ _ => rfl) ?_
          refine ow_gf rfl rfl rfl hlen rfl ?_
          refine RT_step (pc2 := 5) rfl (fun _ _ => rfl) ?_
          refine RT_step (pc2 := 6) rfl (fun _ _ => rfl) ?_
          refine rt_bip rfl k8_60 ?_
          refine ow_iv1 (l2 := ((1, tcl n lim a kd pl w le nu tk (Int32.ofNat 0) fp) :: (2, bcl bs) :: [(13, dcl13 P Dn lw cl id gl bo), (14, lng pn), (15, ia ri), (16, ia lf), (17, ia wa), (18, ia fo), (19, lng dn), (20, ia ha), (21, ia pa), (22, ia bl), (115, .inr (7, [.int (Int32.ofNat o), .int (Int32.ofNat s), .ref 116, .ref 117, .ref 118, .ref 119])), (116, wrd ws), (117, ia sgl), (118, ia nbl)])) rfl rfl rfl rfl hlen rfl rfl rfl ((x_isMarkHere (ov_hl hlen) (ov_at rfl (ov_lt hlen (by decide))) hk5 (c := 60) (s := sv) (by decide) sv1 sv2).up (by decide)) rfl ?_
          refine bcF_ne rfl (b01_t g) ?_
          refine RT_step (pc2 := 39) rfl (fun _ _ => rfl) ?_
          refine ow_iv0 (l2 := ((1, tcl n lim a1 kd1 pl1 w1 le1 nu1 tk (Int32.ofNat 0) fp1) :: (2, bcl bs) :: [(13, dcl13 P Dn lw cl id gl bo), (14, lng pn), (15, ia ri), (16, ia lf), (17, ia wa), (18, ia fo), (19, lng dn), (20, ia ha), (21, ia pa), (22, ia bl), (115, .inr (7, [.int (Int32.ofNat o), .int (Int32.ofNat s), .ref 116, .ref 117, .ref 118, .ref 119])), (116, wrd ws), (117, ia sgl), (118, ia nbl)])) rfl rfl rfl rfl hlen rfl rfl rfl ((x1 _ (ov_hl hlen) (ov_at rfl (ov_lt hlen (by decide))) (ov_at rfl (ov_lt hlen (by decide)))).up (by decide)) rfl ?_
          refine RT_step (pc2 := 43) rfl (fun _ _ => rfl) ?_
          refine rt_ico rfl ki_0 ?_
          refine rt_sip rfl k16_999 ?_
          refine ow_iv1 (l2 := ((1, tcl n lim a3 kd3 pl3 w3 le3 nu3 (Int32.ofNat v) (Int32.ofNat 0) fp3) :: (2, bcl bs) :: [(13, dcl13 P Dn lw cl id gl bo), (14, lng pn), (15, ia ri), (16, ia lf), (17, ia wa), (18, ia fo), (19, lng dn), (20, ia ha), (21, ia pa), (22, ia bl), (115, .inr (7, [.int (Int32.ofNat o), .int (Int32.ofNat s), .ref 116, .ref 117, .ref 118, .ref 119])), (116, wrd ws), (117, ia sgl), (118, ia nbl)])) rfl rfl rfl rfl hlen rfl rfl rfl ((hx _ (ov_hl hlen) (ov_at rfl (ov_lt hlen (by decide))) (ov_at rfl (ov_lt hlen (by decide)))).up (by decide)) rfl ?_
          refine bcF_ne rfl (by decide) ?_
          refine RT_step (pc2 := 56) rfl (fun _ _ => rfl) ?_
          refine RT_step (pc2 := 57) rfl (fun _ _ => rfl) ?_
          refine RT_step (pc2 := 58) rfl (fun _ _ => rfl) ?_
          refine RT_step (pc2 := 59) rfl (fun _ _ => rfl) ?_
          refine ow_gf rfl rfl rfl hlen rfl ?_
          refine ow_iv0 (l2 := ((1, tcl n lim a3 kd3 pl3 w3 le3 nu3 (Int32.ofNat v) (Int32.ofNat 0) fp3) :: (2, bcl bs) :: [(13, dcl13 P Dn lw cl id gl bo), (14, lng pn), (15, ia ri), (16, ia lf), (17, ia wa), (18, ia fo), (19, lng dn), (20, ia ha), (21, ia pa), (22, ia bl), (115, .inr (7, [.int (Int32.ofNat o), .int (Int32.ofNat s2), .ref 116, .ref 117, .ref 118, .ref 119])), (116, wrd ws2), (117, ia sl2), (118, ia nb2)])) rfl rfl rfl rfl hlen rfl rfl rfl ((hadd _ _ (ov_hl hlen) (ov_at rfl (ov_lt hlen (by decide))) (ov_at rfl (ov_lt hlen (by decide))) (ov_at rfl (ov_lt hlen (by decide))) (ov_at rfl (ov_lt hlen (by decide)))).up (by decide)) rfl ?_
          refine rt_ico rfl ki_1 ?_
          exact ow_irt rfl rfl rfl
        · refine FR_st2 (l2 := ((180, mcl (Int32.ofNat 0) (Int32.ofNat 0) n lim a3 pl3 (km kd3) nm3 sg3 (Int32.ofNat 0) qm3 wd3 (Int32.ofNat v) (posn vs (nn + 1) o wi nn)) :: (181, mtl ts) :: [(182, ia nw), (187, lng nz), (202, ia ((((nl.set (4 * nn) (Int32.ofNat (50 + j0))).set (4 * nn + 1) (Int32.ofNat 0)).set (4 * nn + 2) (Int32.ofNat v)).set (4 * nn + 3) sg))])) rfl rfl rfl ?_
          refine RT_step (pc2 := 1) rfl (fun _ _ => rfl) ?_
          refine rt_bip rfl k8_60 ?_
          refine ow_iv1 (l2 := ((180, mcl (Int32.ofNat 0) (Int32.ofNat 0) n lim a pl (km kd) nm sg (Int32.ofNat 0) qm wd td (posn vs nn o wi tp)) :: (181, mtl ts) :: [(182, ia nw), (187, lng nz), (202, ia nl)])) rfl rfl rfl rfl hlen rfl rfl rfl ((m_isSign (ov_hl hlen) (ov_at rfl (ov_lt hlen (by decide))) k10 (c := 60) (s := sv) (by decide) sv1 sv3).up (by decide)) rfl ?_
          refine bcF_ne rfl (b01_t ((bq 60).trans g)) ?_
          refine RT_step (pc2 := 34) rfl (fun _ _ => rfl) ?_
          refine ow_gf rfl rfl rfl hlen rfl ?_
          refine RT_step (pc2 := 38) rfl (fun _ _ => rfl) ?_
          refine RT_step (pc2 := 39) rfl (fun _ _ => rfl) ?_
          refine ow_iv0 (l2 := ((180, mcl (Int32.ofNat 0) (Int32.ofNat 0) n lim a1 pl1 (km kd1) nm1 sg1 (Int32.ofNat 0) qm1 wd1 td (posn vs nn o wi tp)) :: (181, mtl ts) :: [(182, ia nw), (187, lng nz), (202, ia nl)])) rfl rfl rfl rfl hlen rfl rfl rfl ((m1 _ (ov_hl hlen) (ov_at rfl (ov_lt hlen (by decide))) (ov_at rfl (ov_lt hlen (by decide)))).up (by decide)) rfl ?_
          refine RT_step (pc2 := 43) rfl (fun _ _ => rfl) ?_
          refine rt_ico rfl ki_0 ?_
          refine rt_sip rfl k16_999 ?_
          refine ow_iv1 (l2 := ((180, mcl (Int32.ofNat 0) (Int32.ofNat 0) n lim a3 pl3 (km kd3) nm3 sg3 (Int32.ofNat 0) qm3 wd3 (Int32.ofNat v) (posn vs nn o wi tp)) :: (181, mtl ts) :: [(182, ia nw), (187, lng nz), (202, ia nl)])) rfl rfl rfl rfl hlen rfl rfl rfl ((hm _ (ov_hl hlen) (ov_at rfl (ov_lt hlen (by decide))) (ov_at rfl (ov_lt hlen (by decide)))).up (by decide)) rfl ?_
          refine bcF_ne rfl (by decide) ?_
          refine RT_step (pc2 := 56) rfl (fun _ _ => rfl) ?_
          refine RT_step (pc2 := 57) rfl (fun _ _ => rfl) ?_
          refine rt_bip rfl k8_50 ?_
          refine RT_step (pc2 := 60) rfl (fun _ _ => rfl) ?_
          refine ba_iadd rfl ?_
          rw [n_add]
          refine rt_ico rfl ki_0 ?_
          refine RT_step (pc2 := 63) rfl (fun _ _ => rfl) ?_
          refine ow_gf rfl rfl rfl hlen rfl ?_
          refine RT_step (pc2 := 67) rfl (fun _ _ => rfl) ?_
          refine ow_iv1 (l2 := ((180, mcl (Int32.ofNat 0) (Int32.ofNat 0) n lim a3 pl3 (km kd3) nm3 sg3 (Int32.ofNat 0) qm3 wd3 (Int32.ofNat v) (posn vs (nn + 1) o wi tp)) :: (181, mtl ts) :: [(182, ia nw), (187, lng nz), (202, ia ((((nl.set (4 * nn) (Int32.ofNat (50 + j0))).set (4 * nn + 1) (Int32.ofNat 0)).set (4 * nn + 2) (Int32.ofNat v)).set (4 * nn + 3) sg))])) rfl rfl rfl rfl hlen rfl rfl rfl ((m_says (ov_hl hlen) (ov_at rfl (ov_lt hlen (by decide))) (ov_at rfl (ov_lt hlen (by decide))) ln hd).up (by decide)) rfl ?_
          refine ow_pf (l2 := ((180, mcl (Int32.ofNat 0) (Int32.ofNat 0) n lim a3 pl3 (km kd3) nm3 sg3 (Int32.ofNat 0) qm3 wd3 (Int32.ofNat v) (posn vs (nn + 1) o wi nn)) :: (181, mtl ts) :: [(182, ia nw), (187, lng nz), (202, ia ((((nl.set (4 * nn) (Int32.ofNat (50 + j0))).set (4 * nn + 1) (Int32.ofNat 0)).set (4 * nn + 2) (Int32.ofNat v)).set (4 * nn + 3) sg))])) rfl rfl rfl rfl rfl hlen rfl rfl ?_
          refine rt_ico rfl ki_1 ?_
          exact ow_irt rfl rfl rfl
      · refine ⟨fun H hlen => ?_, fun H hlen => ?_⟩
        · refine FR_st2 (l2 := ((1, tcl n lim a3 kd3 pl3 w3 le3 nu3 (Int32.ofNat v) (Int32.ofNat 0) fp3) :: (2, bcl bs) :: [(13, dcl13 P Dn lw cl id gl bo), (14, lng pn), (15, ia ri), (16, ia lf), (17, ia wa), (18, ia fo), (19, lng dn), (20, ia ha), (21, ia pa), (22, ia bl), (115, .inr (7, [.int (Int32.ofNat o), .int (Int32.ofNat s2), .ref 116, .ref 117, .ref 118, .ref 119])), (116, wrd ws2), (117, ia sl2), (118, ia nb2)])) rfl rfl rfl ?_
          refine RT_step (pc2 := 1) rfl (fun _ _ => rfl) ?_
          refine ow_gf rfl rfl rfl hlen rfl ?_
          refine RT_step (pc2 := 5) rfl (fun _ _ => rfl) ?_
          refine RT_step (pc2 := 6) rfl (fun _ _ => rfl) ?_
          refine rt_bip rfl k8_60 ?_
          refine ow_iv1 (l2 := ((1, tcl n lim a kd pl w le nu tk (Int32.ofNat 0) fp) :: (2, bcl bs) :: [(13, dcl13 P Dn lw cl id gl bo), (14, lng pn), (15, ia ri), (16, ia lf), (17, ia wa), (18, ia fo), (19, lng dn), (20, ia ha), (21, ia pa), (22, ia bl), (115, .inr (7, [.int (Int32.ofNat o), .int (Int32.ofNat s), .ref 116, .ref 117, .ref 118, .ref 119])), (116, wrd ws), (117, ia sgl), (118, ia nbl)])) rfl rfl rfl rfl hlen rfl rfl rfl ((x_isMarkHere (ov_hl hlen) (ov_at rfl (ov_lt hlen (by decide))) hk5 (c := 60) (s := sv) (by decide) sv1 sv2).up (by decide)) rfl ?_
          refine bcT_ne rfl (b01_f g1) ?_
          refine RT_step (pc2 := 15) rfl (fun _ _ => rfl) ?_
          refine rt_bip rfl k8_61 ?_
          refine ow_iv1 (l2 := ((1, tcl n lim a kd pl w le nu tk (Int32.ofNat 0) fp) :: (2, bcl bs) :: [(13, dcl13 P Dn lw cl id gl bo), (14, lng pn), (15, ia ri), (16, ia lf), (17, ia wa), (18, ia fo), (19, lng dn), (20, ia ha), (21, ia pa), (22, ia bl), (115, .inr (7, [.int (Int32.ofNat o), .int (Int32.ofNat s), .ref 116, .ref 117, .ref 118, .ref 119])), (116, wrd ws), (117, ia sgl), (118, ia nbl)])) rfl rfl rfl rfl hlen rfl rfl rfl ((x_isMarkHere (ov_hl hlen) (ov_at rfl (ov_lt hlen (by decide))) hk5 (c := 61) (s := sv) (by decide) sv1 sv2).up (by decide)) rfl ?_
          refine bcF_ne rfl (b01_t g) ?_
          refine RT_step (pc2 := 39) rfl (fun _ _ => rfl) ?_
          refine ow_iv0 (l2 := ((1, tcl n lim a1 kd1 pl1 w1 le1 nu1 tk (Int32.ofNat 0) fp1) :: (2, bcl bs) :: [(13, dcl13 P Dn lw cl id gl bo), (14, lng pn), (15, ia ri), (16, ia lf), (17, ia wa), (18, ia fo), (19, lng dn), (20, ia ha), (21, ia pa), (22, ia bl), (115, .inr (7, [.int (Int32.ofNat o), .int (Int32.ofNat s), .ref 116, .ref 117, .ref 118, .ref 119])), (116, wrd ws), (117, ia sgl), (118, ia nbl)])) rfl rfl rfl rfl hlen rfl rfl rfl ((x1 _ (ov_hl hlen) (ov_at rfl (ov_lt hlen (by decide))) (ov_at rfl (ov_lt hlen (by decide)))).up (by decide)) rfl ?_
          refine RT_step (pc2 := 43) rfl (fun _ _ => rfl) ?_
          refine rt_ico rfl ki_0 ?_
          refine rt_sip rfl k16_999 ?_
          refine ow_iv1 (l2 := ((1, tcl n lim a3 kd3 pl3 w3 le3 nu3 (Int32.ofNat v) (Int32.ofNat 0) fp3) :: (2, bcl bs) :: [(13, dcl13 P Dn lw cl id gl bo), (14, lng pn), (15, ia ri), (16, ia lf), (17, ia wa), (18, ia fo), (19, lng dn), (20, ia ha), (21, ia pa), (22, ia bl), (115, .inr (7, [.int (Int32.ofNat o), .int (Int32.ofNat s), .ref 116, .ref 117, .ref 118, .ref 119])), (116, wrd ws), (117, ia sgl), (118, ia nbl)])) rfl rfl rfl rfl hlen rfl rfl rfl ((hx _ (ov_hl hlen) (ov_at rfl (ov_lt hlen (by decide))) (ov_at rfl (ov_lt hlen (by decide)))).up (by decide)) rfl ?_
          refine bcF_ne rfl (by decide) ?_
          refine RT_step (pc2 := 56) rfl (fun _ _ => rfl) ?_
          refine RT_step (pc2 := 57) rfl (fun _ _ => rfl) ?_
          refine RT_step (pc2 := 58) rfl (fun _ _ => rfl) ?_
          refine RT_step (pc2 := 59) rfl (fun _ _ => rfl) ?_
          refine ow_gf rfl rfl rfl hlen rfl ?_
          refine ow_iv0 (l2 := ((1, tcl n lim a3 kd3 pl3 w3 le3 nu3 (Int32.ofNat v) (Int32.ofNat 0) fp3) :: (2, bcl bs) :: [(13, dcl13 P Dn lw cl id gl bo), (14, lng pn), (15, ia ri), (16, ia lf), (17, ia wa), (18, ia fo), (19, lng dn), (20, ia ha), (21, ia pa), (22, ia bl), (115, .inr (7, [.int (Int32.ofNat o), .int (Int32.ofNat s2), .ref 116, .ref 117, .ref 118, .ref 119])), (116, wrd ws2), (117, ia sl2), (118, ia nb2)])) rfl rfl rfl rfl hlen rfl rfl rfl ((hadd _ _ (ov_hl hlen) (ov_at rfl (ov_lt hlen (by decide))) (ov_at rfl (ov_lt hlen (by decide))) (ov_at rfl (ov_lt hlen (by decide))) (ov_at rfl (ov_lt hlen (by decide)))).up (by decide)) rfl ?_
          refine rt_ico rfl ki_1 ?_
          exact ow_irt rfl rfl rfl
        · refine FR_st2 (l2 := ((180, mcl (Int32.ofNat 0) (Int32.ofNat 0) n lim a3 pl3 (km kd3) nm3 sg3 (Int32.ofNat 0) qm3 wd3 (Int32.ofNat v) (posn vs (nn + 1) o wi nn)) :: (181, mtl ts) :: [(182, ia nw), (187, lng nz), (202, ia ((((nl.set (4 * nn) (Int32.ofNat (50 + j0))).set (4 * nn + 1) (Int32.ofNat 0)).set (4 * nn + 2) (Int32.ofNat v)).set (4 * nn + 3) sg))])) rfl rfl rfl ?_
          refine RT_step (pc2 := 1) rfl (fun _ _ => rfl) ?_
          refine rt_bip rfl k8_60 ?_
          refine ow_iv1 (l2 := ((180, mcl (Int32.ofNat 0) (Int32.ofNat 0) n lim a pl (km kd) nm sg (Int32.ofNat 0) qm wd td (posn vs nn o wi tp)) :: (181, mtl ts) :: [(182, ia nw), (187, lng nz), (202, ia nl)])) rfl rfl rfl rfl hlen rfl rfl rfl ((m_isSign (ov_hl hlen) (ov_at rfl (ov_lt hlen (by decide))) k10 (c := 60) (s := sv) (by decide) sv1 sv3).up (by decide)) rfl ?_
          refine bcT_ne rfl (b01_f ((bq 60).trans g1)) ?_
          refine RT_step (pc2 := 10) rfl (fun _ _ => rfl) ?_
          refine rt_bip rfl k8_61 ?_
          refine ow_iv1 (l2 := ((180, mcl (Int32.ofNat 0) (Int32.ofNat 0) n lim a pl (km kd) nm sg (Int32.ofNat 0) qm wd td (posn vs nn o wi tp)) :: (181, mtl ts) :: [(182, ia nw), (187, lng nz), (202, ia nl)])) rfl rfl rfl rfl hlen rfl rfl rfl ((m_isSign (ov_hl hlen) (ov_at rfl (ov_lt hlen (by decide))) k10 (c := 61) (s := sv) (by decide) sv1 sv3).up (by decide)) rfl ?_
          refine bcF_ne rfl (b01_t ((bq 61).trans g)) ?_
          refine RT_step (pc2 := 34) rfl (fun _ _ => rfl) ?_
          refine ow_gf rfl rfl rfl hlen rfl ?_
          refine RT_step (pc2 := 38) rfl (fun _ _ => rfl) ?_
          refine RT_step (pc2 := 39) rfl (fun _ _ => rfl) ?_
          refine ow_iv0 (l2 := ((180, mcl (Int32.ofNat 0) (Int32.ofNat 0) n lim a1 pl1 (km kd1) nm1 sg1 (Int32.ofNat 0) qm1 wd1 td (posn vs nn o wi tp)) :: (181, mtl ts) :: [(182, ia nw), (187, lng nz), (202, ia nl)])) rfl rfl rfl rfl hlen rfl rfl rfl ((m1 _ (ov_hl hlen) (ov_at rfl (ov_lt hlen (by decide))) (ov_at rfl (ov_lt hlen (by decide)))).up (by decide)) rfl ?_
          refine RT_step (pc2 := 43) rfl (fun _ _ => rfl) ?_
          refine rt_ico rfl ki_0 ?_
          refine rt_sip rfl k16_999 ?_
          refine ow_iv1 (l2 := ((180, mcl (Int32.ofNat 0) (Int32.ofNat 0) n lim a3 pl3 (km kd3) nm3 sg3 (Int32.ofNat 0) qm3 wd3 (Int32.ofNat v) (posn vs nn o wi tp)) :: (181, mtl ts) :: [(182, ia nw), (187, lng nz), (202, ia nl)])) rfl rfl rfl rfl hlen rfl rfl rfl ((hm _ (ov_hl hlen) (ov_at rfl (ov_lt hlen (by decide))) (ov_at rfl (ov_lt hlen (by decide)))).up (by decide)) rfl ?_
          refine bcF_ne rfl (by decide) ?_
          refine RT_step (pc2 := 56) rfl (fun _ _ => rfl) ?_
          refine RT_step (pc2 := 57) rfl (fun _ _ => rfl) ?_
          refine rt_bip rfl k8_50 ?_
          refine RT_step (pc2 := 60) rfl (fun _ _ => rfl) ?_
          refine ba_iadd rfl ?_
          rw [n_add]
          refine rt_ico rfl ki_0 ?_
          refine RT_step (pc2 := 63) rfl (fun _ _ => rfl) ?_
          refine ow_gf rfl rfl rfl hlen rfl ?_
          refine RT_step (pc2 := 67) rfl (fun _ _ => rfl) ?_
          refine ow_iv1 (l2 := ((180, mcl (Int32.ofNat 0) (Int32.ofNat 0) n lim a3 pl3 (km kd3) nm3 sg3 (Int32.ofNat 0) qm3 wd3 (Int32.ofNat v) (posn vs (nn + 1) o wi tp)) :: (181, mtl ts) :: [(182, ia nw), (187, lng nz), (202, ia ((((nl.set (4 * nn) (Int32.ofNat (50 + j0))).set (4 * nn + 1) (Int32.ofNat 0)).set (4 * nn + 2) (Int32.ofNat v)).set (4 * nn + 3) sg))])) rfl rfl rfl rfl hlen rfl rfl rfl ((m_says (ov_hl hlen) (ov_at rfl (ov_lt hlen (by decide))) (ov_at rfl (ov_lt hlen (by decide))) ln hd).up (by decide)) rfl ?_
          refine ow_pf (l2 := ((180, mcl (Int32.ofNat 0) (Int32.ofNat 0) n lim a3 pl3 (km kd3) nm3 sg3 (Int32.ofNat 0) qm3 wd3 (Int32.ofNat v) (posn vs (nn + 1) o wi nn)) :: (181, mtl ts) :: [(182, ia nw), (187, lng nz), (202, ia ((((nl.set (4 * nn) (Int32.ofNat (50 + j0))).set (4 * nn + 1) (Int32.ofNat 0)).set (4 * nn + 2) (Int32.ofNat v)).set (4 * nn + 3) sg))])) rfl rfl rfl rfl rfl hlen rfl rfl ?_
          refine rt_ico rfl ki_1 ?_
          exact ow_irt rfl rfl rfl
      · refine ⟨fun H hlen => ?_, fun H hlen => ?_⟩
        · refine FR_st2 (l2 := ((1, tcl n lim a3 kd3 pl3 w3 le3 nu3 (Int32.ofNat v) (Int32.ofNat 0) fp3) :: (2, bcl bs) :: [(13, dcl13 P Dn lw cl id gl bo), (14, lng pn), (15, ia ri), (16, ia lf), (17, ia wa), (18, ia fo), (19, lng dn), (20, ia ha), (21, ia pa), (22, ia bl), (115, .inr (7, [.int (Int32.ofNat o), .int (Int32.ofNat s2), .ref 116, .ref 117, .ref 118, .ref 119])), (116, wrd ws2), (117, ia sl2), (118, ia nb2)])) rfl rfl rfl ?_
          refine RT_step (pc2 := 1) rfl (fun _ _ => rfl) ?_
          refine ow_gf rfl rfl rfl hlen rfl ?_
          refine RT_step (pc2 := 5) rfl (fun _ _ => rfl) ?_
          refine RT_step (pc2 := 6) rfl (fun _ _ => rfl) ?_
          refine rt_bip rfl k8_60 ?_
          refine ow_iv1 (l2 := ((1, tcl n lim a kd pl w le nu tk (Int32.ofNat 0) fp) :: (2, bcl bs) :: [(13, dcl13 P Dn lw cl id gl bo), (14, lng pn), (15, ia ri), (16, ia lf), (17, ia wa), (18, ia fo), (19, lng dn), (20, ia ha), (21, ia pa), (22, ia bl), (115, .inr (7, [.int (Int32.ofNat o), .int (Int32.ofNat s), .ref 116, .ref 117, .ref 118, .ref 119])), (116, wrd ws), (117, ia sgl), (118, ia nbl)])) rfl rfl rfl rfl hlen rfl rfl rfl ((x_isMarkHere (ov_hl hlen) (ov_at rfl (ov_lt hlen (by decide))) hk5 (c := 60) (s := sv) (by decide) sv1 sv2).up (by decide)) rfl ?_
          refine bcT_ne rfl (b01_f g1) ?_
          refine RT_step (pc2 := 15) rfl (fun _ _ => rfl) ?_
          refine rt_bip rfl k8_61 ?_
          refine ow_iv1 (l2 := ((1, tcl n lim a kd pl w le nu tk (Int32.ofNat 0) fp) :: (2, bcl bs) :: [(13, dcl13 P Dn lw cl id gl bo), (14, lng pn), (15, ia ri), (16, ia lf), (17, ia wa), (18, ia fo), (19, lng dn), (20, ia ha), (21, ia pa), (22, ia bl), (115, .inr (7, [.int (Int32.ofNat o), .int (Int32.ofNat s), .ref 116, .ref 117, .ref 118, .ref 119])), (116, wrd ws), (117, ia sgl), (118, ia nbl)])) rfl rfl rfl rfl hlen rfl rfl rfl ((x_isMarkHere (ov_hl hlen) (ov_at rfl (ov_lt hlen (by decide))) hk5 (c := 61) (s := sv) (by decide) sv1 sv2).up (by decide)) rfl ?_
          refine bcT_ne rfl (b01_f g2) ?_
          refine RT_step (pc2 := 24) rfl (fun _ _ => rfl) ?_
          refine rt_bip rfl k8_62 ?_
          refine ow_iv1 (l2 := ((1, tcl n lim a kd pl w le nu tk (Int32.ofNat 0) fp) :: (2, bcl bs) :: [(13, dcl13 P Dn lw cl id gl bo), (14, lng pn), (15, ia ri), (16, ia lf), (17, ia wa), (18, ia fo), (19, lng dn), (20, ia ha), (21, ia pa), (22, ia bl), (115, .inr (7, [.int (Int32.ofNat o), .int (Int32.ofNat s), .ref 116, .ref 117, .ref 118, .ref 119])), (116, wrd ws), (117, ia sgl), (118, ia nbl)])) rfl rfl rfl rfl hlen rfl rfl rfl ((x_isMarkHere (ov_hl hlen) (ov_at rfl (ov_lt hlen (by decide))) hk5 (c := 62) (s := sv) (by decide) sv1 sv2).up (by decide)) rfl ?_
          refine bcF_ne rfl (b01_t g) ?_
          refine RT_step (pc2 := 39) rfl (fun _ _ => rfl) ?_
          refine ow_iv0 (l2 := ((1, tcl n lim a1 kd1 pl1 w1 le1 nu1 tk (Int32.ofNat 0) fp1) :: (2, bcl bs) :: [(13, dcl13 P Dn lw cl id gl bo), (14, lng pn), (15, ia ri), (16, ia lf), (17, ia wa), (18, ia fo), (19, lng dn), (20, ia ha), (21, ia pa), (22, ia bl), (115, .inr (7, [.int (Int32.ofNat o), .int (Int32.ofNat s), .ref 116, .ref 117, .ref 118, .ref 119])), (116, wrd ws), (117, ia sgl), (118, ia nbl)])) rfl rfl rfl rfl hlen rfl rfl rfl ((x1 _ (ov_hl hlen) (ov_at rfl (ov_lt hlen (by decide))) (ov_at rfl (ov_lt hlen (by decide)))).up (by decide)) rfl ?_
          refine RT_step (pc2 := 43) rfl (fun _ _ => rfl) ?_
          refine rt_ico rfl ki_0 ?_
          refine rt_sip rfl k16_999 ?_
          refine ow_iv1 (l2 := ((1, tcl n lim a3 kd3 pl3 w3 le3 nu3 (Int32.ofNat v) (Int32.ofNat 0) fp3) :: (2, bcl bs) :: [(13, dcl13 P Dn lw cl id gl bo), (14, lng pn), (15, ia ri), (16, ia lf), (17, ia wa), (18, ia fo), (19, lng dn), (20, ia ha), (21, ia pa), (22, ia bl), (115, .inr (7, [.int (Int32.ofNat o), .int (Int32.ofNat s), .ref 116, .ref 117, .ref 118, .ref 119])), (116, wrd ws), (117, ia sgl), (118, ia nbl)])) rfl rfl rfl rfl hlen rfl rfl rfl ((hx _ (ov_hl hlen) (ov_at rfl (ov_lt hlen (by decide))) (ov_at rfl (ov_lt hlen (by decide)))).up (by decide)) rfl ?_
          refine bcF_ne rfl (by decide) ?_
          refine RT_step (pc2 := 56) rfl (fun _ _ => rfl) ?_
          refine RT_step (pc2 := 57) rfl (fun _ _ => rfl) ?_
          refine RT_step (pc2 := 58) rfl (fun _ _ => rfl) ?_
          refine RT_step (pc2 := 59) rfl (fun _ _ => rfl) ?_
          refine ow_gf rfl rfl rfl hlen rfl ?_
          refine ow_iv0 (l2 := ((1, tcl n lim a3 kd3 pl3 w3 le3 nu3 (Int32.ofNat v) (Int32.ofNat 0) fp3) :: (2, bcl bs) :: [(13, dcl13 P Dn lw cl id gl bo), (14, lng pn), (15, ia ri), (16, ia lf), (17, ia wa), (18, ia fo), (19, lng dn), (20, ia ha), (21, ia pa), (22, ia bl), (115, .inr (7, [.int (Int32.ofNat o), .int (Int32.ofNat s2), .ref 116, .ref 117, .ref 118, .ref 119])), (116, wrd ws2), (117, ia sl2), (118, ia nb2)])) rfl rfl rfl rfl hlen rfl rfl rfl ((hadd _ _ (ov_hl hlen) (ov_at rfl (ov_lt hlen (by decide))) (ov_at rfl (ov_lt hlen (by decide))) (ov_at rfl (ov_lt hlen (by decide))) (ov_at rfl (ov_lt hlen (by decide)))).up (by decide)) rfl ?_
          refine rt_ico rfl ki_1 ?_
          exact ow_irt rfl rfl rfl
        · refine FR_st2 (l2 := ((180, mcl (Int32.ofNat 0) (Int32.ofNat 0) n lim a3 pl3 (km kd3) nm3 sg3 (Int32.ofNat 0) qm3 wd3 (Int32.ofNat v) (posn vs (nn + 1) o wi nn)) :: (181, mtl ts) :: [(182, ia nw), (187, lng nz), (202, ia ((((nl.set (4 * nn) (Int32.ofNat (50 + j0))).set (4 * nn + 1) (Int32.ofNat 0)).set (4 * nn + 2) (Int32.ofNat v)).set (4 * nn + 3) sg))])) rfl rfl rfl ?_
          refine RT_step (pc2 := 1) rfl (fun _ _ => rfl) ?_
          refine rt_bip rfl k8_60 ?_
          refine ow_iv1 (l2 := ((180, mcl (Int32.ofNat 0) (Int32.ofNat 0) n lim a pl (km kd) nm sg (Int32.ofNat 0) qm wd td (posn vs nn o wi tp)) :: (181, mtl ts) :: [(182, ia nw), (187, lng nz), (202, ia nl)])) rfl rfl rfl rfl hlen rfl rfl rfl ((m_isSign (ov_hl hlen) (ov_at rfl (ov_lt hlen (by decide))) k10 (c := 60) (s := sv) (by decide) sv1 sv3).up (by decide)) rfl ?_
          refine bcT_ne rfl (b01_f ((bq 60).trans g1)) ?_
          refine RT_step (pc2 := 10) rfl (fun _ _ => rfl) ?_
          refine rt_bip rfl k8_61 ?_
          refine ow_iv1 (l2 := ((180, mcl (Int32.ofNat 0) (Int32.ofNat 0) n lim a pl (km kd) nm sg (Int32.ofNat 0) qm wd td (posn vs nn o wi tp)) :: (181, mtl ts) :: [(182, ia nw), (187, lng nz), (202, ia nl)])) rfl rfl rfl rfl hlen rfl rfl rfl ((m_isSign (ov_hl hlen) (ov_at rfl (ov_lt hlen (by decide))) k10 (c := 61) (s := sv) (by decide) sv1 sv3).up (by decide)) rfl ?_
          refine bcT_ne rfl (b01_f ((bq 61).trans g2)) ?_
          refine RT_step (pc2 := 19) rfl (fun _ _ => rfl) ?_
          refine rt_bip rfl k8_62 ?_
          refine ow_iv1 (l2 := ((180, mcl (Int32.ofNat 0) (Int32.ofNat 0) n lim a pl (km kd) nm sg (Int32.ofNat 0) qm wd td (posn vs nn o wi tp)) :: (181, mtl ts) :: [(182, ia nw), (187, lng nz), (202, ia nl)])) rfl rfl rfl rfl hlen rfl rfl rfl ((m_isSign (ov_hl hlen) (ov_at rfl (ov_lt hlen (by decide))) k10 (c := 62) (s := sv) (by decide) sv1 sv3).up (by decide)) rfl ?_
          refine bcF_ne rfl (b01_t ((bq 62).trans g)) ?_
          refine RT_step (pc2 := 34) rfl (fun _ _ => rfl) ?_
          refine ow_gf rfl rfl rfl hlen rfl ?_
          refine RT_step (pc2 := 38) rfl (fun _ _ => rfl) ?_
          refine RT_step (pc2 := 39) rfl (fun _ _ => rfl) ?_
          refine ow_iv0 (l2 := ((180, mcl (Int32.ofNat 0) (Int32.ofNat 0) n lim a1 pl1 (km kd1) nm1 sg1 (Int32.ofNat 0) qm1 wd1 td (posn vs nn o wi tp)) :: (181, mtl ts) :: [(182, ia nw), (187, lng nz), (202, ia nl)])) rfl rfl rfl rfl hlen rfl rfl rfl ((m1 _ (ov_hl hlen) (ov_at rfl (ov_lt hlen (by decide))) (ov_at rfl (ov_lt hlen (by decide)))).up (by decide)) rfl ?_
          refine RT_step (pc2 := 43) rfl (fun _ _ => rfl) ?_
          refine rt_ico rfl ki_0 ?_
          refine rt_sip rfl k16_999 ?_
          refine ow_iv1 (l2 := ((180, mcl (Int32.ofNat 0) (Int32.ofNat 0) n lim a3 pl3 (km kd3) nm3 sg3 (Int32.ofNat 0) qm3 wd3 (Int32.ofNat v) (posn vs nn o wi tp)) :: (181, mtl ts) :: [(182, ia nw), (187, lng nz), (202, ia nl)])) rfl rfl rfl rfl hlen rfl rfl rfl ((hm _ (ov_hl hlen) (ov_at rfl (ov_lt hlen (by decide))) (ov_at rfl (ov_lt hlen (by decide)))).up (by decide)) rfl ?_
          refine bcF_ne rfl (by decide) ?_
          refine RT_step (pc2 := 56) rfl (fun _ _ => rfl) ?_
          refine RT_step (pc2 := 57) rfl (fun _ _ => rfl) ?_
          refine rt_bip rfl k8_50 ?_
          refine RT_step (pc2 := 60) rfl (fun _ _ => rfl) ?_
          refine ba_iadd rfl ?_
          rw [n_add]
          refine rt_ico rfl ki_0 ?_
          refine RT_step (pc2 := 63) rfl (fun _ _ => rfl) ?_
          refine ow_gf rfl rfl rfl hlen rfl ?_
          refine RT_step (pc2 := 67) rfl (fun _ _ => rfl) ?_
          refine ow_iv1 (l2 := ((180, mcl (Int32.ofNat 0) (Int32.ofNat 0) n lim a3 pl3 (km kd3) nm3 sg3 (Int32.ofNat 0) qm3 wd3 (Int32.ofNat v) (posn vs (nn + 1) o wi tp)) :: (181, mtl ts) :: [(182, ia nw), (187, lng nz), (202, ia ((((nl.set (4 * nn) (Int32.ofNat (50 + j0))).set (4 * nn + 1) (Int32.ofNat 0)).set (4 * nn + 2) (Int32.ofNat v)).set (4 * nn + 3) sg))])) rfl rfl rfl rfl hlen rfl rfl rfl ((m_says (ov_hl hlen) (ov_at rfl (ov_lt hlen (by decide))) (ov_at rfl (ov_lt hlen (by decide))) ln hd).up (by decide)) rfl ?_
          refine ow_pf (l2 := ((180, mcl (Int32.ofNat 0) (Int32.ofNat 0) n lim a3 pl3 (km kd3) nm3 sg3 (Int32.ofNat 0) qm3 wd3 (Int32.ofNat v) (posn vs (nn + 1) o wi nn)) :: (181, mtl ts) :: [(182, ia nw), (187, lng nz), (202, ia ((((nl.set (4 * nn) (Int32.ofNat (50 + j0))).set (4 * nn + 1) (Int32.ofNat 0)).set (4 * nn + 2) (Int32.ofNat v)).set (4 * nn + 3) sg))])) rfl rfl rfl rfl rfl hlen rfl rfl ?_
          refine rt_ico rfl ki_1 ?_
          exact ow_irt rfl rfl rfl
  · have g1 : (Nat.beq kd 3 && Nat.beq sv 60) = false := Bool.eq_false_iff.mpr (fun e => cc (Or.inl e))
    have g2 : (Nat.beq kd 3 && Nat.beq sv 61) = false := Bool.eq_false_iff.mpr (fun e => cc (Or.inr (Or.inl e)))
    have g3 : (Nat.beq kd 3 && Nat.beq sv 62) = false := Bool.eq_false_iff.mpr (fun e => cc (Or.inr (Or.inr e)))
    obtain ⟨T, M, f, hx, hm⟩ := s_ref (bs := bs) (ts := ts) (lim := lim) (po := (posn vs nn o wi tp)) (pl := pl) (tk := tk) (td := td) (fp := fp) (plM := qm) t (kk := 1) (by decide) (by decide) (Or.inr rfl)
    refine Or.inl ⟨T, M, f, fun H hlen => ?_, fun H hlen => ?_⟩
    · refine FR_st2 (l2 := ((1, T) :: (2, bcl bs) :: [(13, dcl13 P Dn lw cl id gl bo), (14, lng pn), (15, ia ri), (16, ia lf), (17, ia wa), (18, ia fo), (19, lng dn), (20, ia ha), (21, ia pa), (22, ia bl), (115, .inr (7, [.int (Int32.ofNat o), .int (Int32.ofNat s), .ref 116, .ref 117, .ref 118, .ref 119])), (116, wrd ws), (117, ia sgl), (118, ia nbl)])) rfl rfl rfl ?_
      refine RT_step (pc2 := 1) rfl (fun _ _ => rfl) ?_
      refine ow_gf rfl rfl rfl hlen rfl ?_
      refine RT_step (pc2 := 5) rfl (fun _ _ => rfl) ?_
      refine RT_step (pc2 := 6) rfl (fun _ _ => rfl) ?_
      refine rt_bip rfl k8_60 ?_
      refine ow_iv1 (l2 := ((1, tcl n lim a kd pl w le nu tk (Int32.ofNat 0) fp) :: (2, bcl bs) :: [(13, dcl13 P Dn lw cl id gl bo), (14, lng pn), (15, ia ri), (16, ia lf), (17, ia wa), (18, ia fo), (19, lng dn), (20, ia ha), (21, ia pa), (22, ia bl), (115, .inr (7, [.int (Int32.ofNat o), .int (Int32.ofNat s), .ref 116, .ref 117, .ref 118, .ref 119])), (116, wrd ws), (117, ia sgl), (118, ia nbl)])) rfl rfl rfl rfl hlen rfl rfl rfl ((x_isMarkHere (ov_hl hlen) (ov_at rfl (ov_lt hlen (by decide))) hk5 (c := 60) (s := sv) (by decide) sv1 sv2).up (by decide)) rfl ?_
      refine bcT_ne rfl (b01_f g1) ?_
      refine RT_step (pc2 := 15) rfl (fun _ _ => rfl) ?_
      refine rt_bip rfl k8_61 ?_
      refine ow_iv1 (l2 := ((1, tcl n lim a kd pl w le nu tk (Int32.ofNat 0) fp) :: (2, bcl bs) :: [(13, dcl13 P Dn lw cl id gl bo), (14, lng pn), (15, ia ri), (16, ia lf), (17, ia wa), (18, ia fo), (19, lng dn), (20, ia ha), (21, ia pa), (22, ia bl), (115, .inr (7, [.int (Int32.ofNat o), .int (Int32.ofNat s), .ref 116, .ref 117, .ref 118, .ref 119])), (116, wrd ws), (117, ia sgl), (118, ia nbl)])) rfl rfl rfl rfl hlen rfl rfl rfl ((x_isMarkHere (ov_hl hlen) (ov_at rfl (ov_lt hlen (by decide))) hk5 (c := 61) (s := sv) (by decide) sv1 sv2).up (by decide)) rfl ?_
      refine bcT_ne rfl (b01_f g2) ?_
      refine RT_step (pc2 := 24) rfl (fun _ _ => rfl) ?_
      refine rt_bip rfl k8_62 ?_
      refine ow_iv1 (l2 := ((1, tcl n lim a kd pl w le nu tk (Int32.ofNat 0) fp) :: (2, bcl bs) :: [(13, dcl13 P Dn lw cl id gl bo), (14, lng pn), (15, ia ri), (16, ia lf), (17, ia wa), (18, ia fo), (19, lng dn), (20, ia ha), (21, ia pa), (22, ia bl), (115, .inr (7, [.int (Int32.ofNat o), .int (Int32.ofNat s), .ref 116, .ref 117, .ref 118, .ref 119])), (116, wrd ws), (117, ia sgl), (118, ia nbl)])) rfl rfl rfl rfl hlen rfl rfl rfl ((x_isMarkHere (ov_hl hlen) (ov_at rfl (ov_lt hlen (by decide))) hk5 (c := 62) (s := sv) (by decide) sv1 sv2).up (by decide)) rfl ?_
      refine bcT_ne rfl (b01_f g3) ?_
      refine RT_step (pc2 := 33) rfl (fun _ _ => rfl) ?_
      refine rt_ico rfl ki_1 ?_
      refine ow_iv1 (l2 := ((1, T) :: (2, bcl bs) :: [(13, dcl13 P Dn lw cl id gl bo), (14, lng pn), (15, ia ri), (16, ia lf), (17, ia wa), (18, ia fo), (19, lng dn), (20, ia ha), (21, ia pa), (22, ia bl), (115, .inr (7, [.int (Int32.ofNat o), .int (Int32.ofNat s), .ref 116, .ref 117, .ref 118, .ref 119])), (116, wrd ws), (117, ia sgl), (118, ia nbl)])) rfl rfl rfl rfl hlen rfl rfl rfl ((hx _ (ov_hl hlen) (ov_at rfl (ov_lt hlen (by decide))) (ov_at rfl (ov_lt hlen (by decide)))).up (by decide)) rfl ?_
      exact ow_irt rfl rfl rfl
    · refine FR_st2 (l2 := ((180, M) :: (181, mtl ts) :: [(182, ia nw), (187, lng nz), (202, ia nl)])) rfl rfl rfl ?_
      refine RT_step (pc2 := 1) rfl (fun _ _ => rfl) ?_
      refine rt_bip rfl k8_60 ?_
      refine ow_iv1 (l2 := ((180, mcl (Int32.ofNat 0) (Int32.ofNat 0) n lim a pl (km kd) nm sg (Int32.ofNat 0) qm wd td (posn vs nn o wi tp)) :: (181, mtl ts) :: [(182, ia nw), (187, lng nz), (202, ia nl)])) rfl rfl rfl rfl hlen rfl rfl rfl ((m_isSign (ov_hl hlen) (ov_at rfl (ov_lt hlen (by decide))) k10 (c := 60) (s := sv) (by decide) sv1 sv3).up (by decide)) rfl ?_
      refine bcT_ne rfl (b01_f ((bq 60).trans g1)) ?_
      refine RT_step (pc2 := 10) rfl (fun _ _ => rfl) ?_
      refine rt_bip rfl k8_61 ?_
      refine ow_iv1 (l2 := ((180, mcl (Int32.ofNat 0) (Int32.ofNat 0) n lim a pl (km kd) nm sg (Int32.ofNat 0) qm wd td (posn vs nn o wi tp)) :: (181, mtl ts) :: [(182, ia nw), (187, lng nz), (202, ia nl)])) rfl rfl rfl rfl hlen rfl rfl rfl ((m_isSign (ov_hl hlen) (ov_at rfl (ov_lt hlen (by decide))) k10 (c := 61) (s := sv) (by decide) sv1 sv3).up (by decide)) rfl ?_
      refine bcT_ne rfl (b01_f ((bq 61).trans g2)) ?_
      refine RT_step (pc2 := 19) rfl (fun _ _ => rfl) ?_
      refine rt_bip rfl k8_62 ?_
      refine ow_iv1 (l2 := ((180, mcl (Int32.ofNat 0) (Int32.ofNat 0) n lim a pl (km kd) nm sg (Int32.ofNat 0) qm wd td (posn vs nn o wi tp)) :: (181, mtl ts) :: [(182, ia nw), (187, lng nz), (202, ia nl)])) rfl rfl rfl rfl hlen rfl rfl rfl ((m_isSign (ov_hl hlen) (ov_at rfl (ov_lt hlen (by decide))) k10 (c := 62) (s := sv) (by decide) sv1 sv3).up (by decide)) rfl ?_
      refine bcT_ne rfl (b01_f ((bq 62).trans g3)) ?_
      refine RT_step (pc2 := 28) rfl (fun _ _ => rfl) ?_
      refine rt_ico rfl ki_1 ?_
      refine ow_iv1 (l2 := ((180, M) :: (181, mtl ts) :: [(182, ia nw), (187, lng nz), (202, ia nl)])) rfl rfl rfl rfl hlen rfl rfl rfl ((hm _ (ov_hl hlen) (ov_at rfl (ov_lt hlen (by decide))) (ov_at rfl (ov_lt hlen (by decide)))).up (by decide)) rfl ?_
      exact ow_irt rfl rfl rfl
