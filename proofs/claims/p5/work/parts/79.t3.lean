/-! ===== a LINE but for its ';' ===== -/
theorem b_act3 {B : Nat → Nat} {bs ts : List Int32} {vs : Nat → Value} {bv : Nat → Int32} {n lim : Nat} {k a kd pl w : Nat} {le : Int64} {nu tk td fp nm sg qm : Int32} {wd : Int64} {o : Nat} {u1 u2 u3 u4 nw li : List Int32} {nz : List Int64} {P : Nat} {Dn : Nat} {lw : Int32} {cl : Int32} {id : Int32} {gl : Nat} {bo : Nat} {pn : List Int64} {ri : List Int32} {lf : List Int32} {wa : List Int32} {fo : List Int32} {dn : List Int64} {ha : List Int32} {pa : List Int32} {bl : List Int32} (hB : BY bs B) (hM : MY ts B) (hb : ∀ i, B i < 256) (hn : n ≤ 940) (hl : lim ≤ 940) (t : TF k n a kd w le nu nm sg wd) (hday : ¬ w = 16) (hP : P ≤ 7) (hDn : Dn ≤ 8) (lp : pn.length = 7) (ld : dn.length = 8) (lz : nz.length = 15) (hv : nw[0]? = some (Int32.ofNat P)) (hv1 : nw[1]? = some (Int32.ofNat Dn)) (hN : ∀ i, i < P → ∃ ss, nok ss ∧ pn[i]? = some (p5 ss) ∧ nz[0 + i]? = some (p27 ss)) (hN2 : ∀ i, i < Dn → ∃ ss, nok ss ∧ dn[i]? = some (p5 ss) ∧ nz[7 + i]? = some (p27 ss)) (bx : BX o u1 u2 u3 u4) (ln : li.length = 160) : (∃ (T M : AE) (li2 : List Int32), FC n lim (posb vs o) T M ∧ li2.length = 160 ∧ LSb 12 51 [.ref 105, .ref 1, .ref 3] 14 246 [.ref 180] ((1, tcl n lim a kd pl w le nu tk (Int32.ofNat 0) fp) :: (2, bcl bs) :: [(3, dcl3 P Dn lw cl id gl bo), (4, lng pn), (5, ia ri), (6, ia lf), (7, ia wa), (8, ia fo), (9, lng dn), (10, ia ha), (11, ia pa), (12, ia bl), (105, bkc o bv), (106, ia u1), (107, ia u2), (108, ia u3), (109, ia u4)]) ((180, mcl (Int32.ofNat 0) (Int32.ofNat 0) n lim a pl (km kd) nm sg (Int32.ofNat 0) qm wd td (posb vs o)) :: (181, mtl ts) :: [(182, ia nw), (187, lng nz), (200, ia li)]) (.int (Int32.ofNat 0)) (.int (Int32.ofNat 0)) [(1, T)] [(180, M), (200, ia li2)]) ∨ (o < 40 ∧ ∃ (k2 : Nat) (tk2 td2 : Int32) (T M : AE) (v1 v2 v3 v4 li2 : List Int32), TC n lim (posb vs o) k2 tk2 td2 T M ∧ BX (o + 1) v1 v2 v3 v4 ∧ li2.length = 160 ∧ (∀ H : List AE, Nat.ble 204 H.length = true → FR 12 51 [.ref 105, .ref 1, .ref 3] (ov H ((1, tcl n lim a kd pl w le nu tk (Int32.ofNat 0) fp) :: (2, bcl bs) :: [(3, dcl3 P Dn lw cl id gl bo), (4, lng pn), (5, ia ri), (6, ia lf), (7, ia wa), (8, ia fo), (9, lng dn), (10, ia ha), (11, ia pa), (12, ia bl), (105, bkc o bv), (106, ia u1), (107, ia u2), (108, ia u3), (109, ia u4)])) (some (.int (Int32.ofNat 1)), ov (ov H ((1, tcl n lim a kd pl w le nu tk (Int32.ofNat 0) fp) :: (2, bcl bs) :: [(3, dcl3 P Dn lw cl id gl bo), (4, lng pn), (5, ia ri), (6, ia lf), (7, ia wa), (8, ia fo), (9, lng dn), (10, ia ha), (11, ia pa), (12, ia bl), (105, bkc o bv), (106, ia u1), (107, ia u2), (108, ia u3), (109, ia u4)])) [(1, T), (105, bkc (o + 1) bv), (106, ia v1), (107, ia v2), (108, ia v3), (109, ia v4)])) ∧ ∀ (H : List AE) (dd : Nat) (q : ev_R), Nat.ble 204 H.length = true → (∀ L2, ev_g L2 0 = some (.ref 180) → RT MM (dd + 13) 246 169 L2 [] (ov H ((180, M) :: (181, mtl ts) :: [(182, ia nw), (187, lng nz), (200, ia li2)])) q) → RT MM (dd + 13) 246 0 (lv_args 0 [.ref 180]) [] (ov H ((180, mcl (Int32.ofNat 0) (Int32.ofNat 0) n lim a pl (km kd) nm sg (Int32.ofNat 0) qm wd td (posb vs o)) :: (181, mtl ts) :: [(182, ia nw), (187, lng nz), (200, ia li)])) q) := by
  have hd0 : isW (km kd) wd 16 = false := by
    rw [w_is t (by decide)]
    exact decide_eq_false hday
  have ho0 := bx.1
  have hw0 := t.2.2.2.2.1
  by_cases c : w = 1
  · have hk1 := w_k1 t (by omega)
    obtain ⟨rs, r1, r2, r3, r4, r5, r6⟩ := t.2.2.2.2.2.1 hk1
    have hr : nok rs := ⟨r1, r2, r3⟩
    have hnm : (Nat.beq (km kd) 2 && nmB wd 30 0) = true := by rw [w_nm t, c]; rfl
    have q0 := nm_eq hr hN
    rw [← r4, ← r5] at q0
    clear r1 r2 r3 r4 r5 r6 hr
    cases e0 : fd pn le 0 P 0 with
    | some j0 =>
      have g0 := q0.symm.trans e0
      have hj0 := (fd_lt e0).2
      by_cases co : o = 40
      · obtain ⟨T, M, f, hx, hm⟩ := s_ref (bs := bs) (ts := ts) (lim := lim) (po := (posb vs o)) (pl := pl) (tk := tk) (td := td) (fp := fp) (plM := qm) t (kk := 4) (by decide) (by decide) (Or.inl (by omega))
        refine Or.inl ⟨T, M, li, f, ln, fun H hlen => ?_, fun H hlen => ?_⟩
        · have hz : FR 2 71 [.ref 1, .ref 4, .int (Int32.ofNat P)] (ov H ((1, tcl n lim a kd pl w le nu tk (Int32.ofNat 0) fp) :: (2, bcl bs) :: [(3, dcl3 P Dn lw cl id gl bo), (4, lng pn), (5, ia ri), (6, ia lf), (7, ia wa), (8, ia fo), (9, lng dn), (10, ia ha), (11, ia pa), (12, ia bl), (105, bkc o bv), (106, ia u1), (107, ia u2), (108, ia u3), (109, ia u4)])) (some (.int (Int32.ofNat j0)), ov (ov H ((1, tcl n lim a kd pl w le nu tk (Int32.ofNat 0) fp) :: (2, bcl bs) :: [(3, dcl3 P Dn lw cl id gl bo), (4, lng pn), (5, ia ri), (6, ia lf), (7, ia wa), (8, ia fo), (9, lng dn), (10, ia ha), (11, ia pa), (12, ia bl), (105, bkc o bv), (106, ia u1), (107, ia u2), (108, ia u3), (109, ia u4)])) [(1, tcl n lim a kd pl w le nu tk (Int32.ofNat 0) fp)]) := by
            refine FR_st2 (l2 := ((1, tcl n lim a kd pl w le nu tk (Int32.ofNat 0) fp) :: (2, bcl bs) :: [(3, dcl3 P Dn lw cl id gl bo), (4, lng pn), (5, ia ri), (6, ia lf), (7, ia wa), (8, ia fo), (9, lng dn), (10, ia ha), (11, ia pa), (12, ia bl), (105, bkc o bv), (106, ia u1), (107, ia u2), (108, ia u3), (109, ia u4)])) rfl rfl rfl ?_
            refine RT_step (pc2 := 1) rfl (fun _ _ => rfl) ?_
            refine ow_gf rfl rfl rfl hlen rfl ?_
            refine RT_step (pc2 := 7) rfl (fun _ _ => rfl) ?_
            refine rt_acE rfl (by omega) (by omega) ?_
            refine RT_if c ?_
            refine RT_step (pc2 := 19) rfl (fun _ _ => rfl) ?_
            refine RT_step (pc2 := 20) rfl (fun _ _ => rfl) ?_
            refine RT_step (pc2 := 21) rfl (fun _ _ => rfl) ?_
            refine ow_gf rfl rfl rfl hlen rfl ?_
            refine ow_is1 rfl rfl rfl rfl rfl ((x_find4 (ov_hl hlen) (ov_at rfl (ov_lt hlen (by decide))) (by omega) (by omega)).up (by decide)) rfl ?_
            rw [show fdI (fd pn le 0 P 0) = Int32.ofNat j0 from by rw [e0]; rfl]
            refine RT_step (pc2 := 28) rfl (fun _ _ => rfl) ?_
            refine RT_step (pc2 := 29) rfl (fun _ _ => rfl) ?_
            refine rt_ico rfl ki_m1 ?_
            refine biF_ne rfl (n_m1 (by omega)) ?_
            refine RT_step (pc2 := 40) rfl (fun _ _ => rfl) ?_
            exact ow_irt rfl rfl rfl
          have hy : FR 3 73 [.ref 3, .ref 1] (ov H ((1, tcl n lim a kd pl w le nu tk (Int32.ofNat 0) fp) :: (2, bcl bs) :: [(3, dcl3 P Dn lw cl id gl bo), (4, lng pn), (5, ia ri), (6, ia lf), (7, ia wa), (8, ia fo), (9, lng dn), (10, ia ha), (11, ia pa), (12, ia bl), (105, bkc o bv), (106, ia u1), (107, ia u2), (108, ia u3), (109, ia u4)])) (some (.int (Int32.ofNat j0)), ov (ov H ((1, tcl n lim a kd pl w le nu tk (Int32.ofNat 0) fp) :: (2, bcl bs) :: [(3, dcl3 P Dn lw cl id gl bo), (4, lng pn), (5, ia ri), (6, ia lf), (7, ia wa), (8, ia fo), (9, lng dn), (10, ia ha), (11, ia pa), (12, ia bl), (105, bkc o bv), (106, ia u1), (107, ia u2), (108, ia u3), (109, ia u4)])) [(1, tcl n lim a kd pl w le nu tk (Int32.ofNat 0) fp)]) := by
            refine FR_st2 (l2 := ((1, tcl n lim a kd pl w le nu tk (Int32.ofNat 0) fp) :: (2, bcl bs) :: [(3, dcl3 P Dn lw cl id gl bo), (4, lng pn), (5, ia ri), (6, ia lf), (7, ia wa), (8, ia fo), (9, lng dn), (10, ia ha), (11, ia pa), (12, ia bl), (105, bkc o bv), (106, ia u1), (107, ia u2), (108, ia u3), (109, ia u4)])) rfl rfl rfl ?_
            refine RT_step (pc2 := 1) rfl (fun _ _ => rfl) ?_
            refine RT_step (pc2 := 2) rfl (fun _ _ => rfl) ?_
            refine ow_gf rfl rfl rfl hlen rfl ?_
            refine RT_step (pc2 := 6) rfl (fun _ _ => rfl) ?_
            refine ow_gf rfl rfl rfl hlen rfl ?_
            refine ow_is1 (l2 := ((1, tcl n lim a kd pl w le nu tk (Int32.ofNat 0) fp) :: (2, bcl bs) :: [(3, dcl3 P Dn lw cl id gl bo), (4, lng pn), (5, ia ri), (6, ia lf), (7, ia wa), (8, ia fo), (9, lng dn), (10, ia ha), (11, ia pa), (12, ia bl), (105, bkc o bv), (106, ia u1), (107, ia u2), (108, ia u3), (109, ia u4)])) rfl rfl rfl rfl rfl (hz.up (by decide)) rfl ?_
            exact ow_irt rfl rfl rfl
          refine FR_st2 (l2 := ((1, T) :: (2, bcl bs) :: [(3, dcl3 P Dn lw cl id gl bo), (4, lng pn), (5, ia ri), (6, ia lf), (7, ia wa), (8, ia fo), (9, lng dn), (10, ia ha), (11, ia pa), (12, ia bl), (105, bkc o bv), (106, ia u1), (107, ia u2), (108, ia u3), (109, ia u4)])) rfl rfl rfl ?_
          refine RT_step (pc2 := 1) rfl (fun _ _ => rfl) ?_
          refine RT_step (pc2 := 2) rfl (fun _ _ => rfl) ?_
          refine ow_iv1 (l2 := ((1, tcl n lim a kd pl w le nu tk (Int32.ofNat 0) fp) :: (2, bcl bs) :: [(3, dcl3 P Dn lw cl id gl bo), (4, lng pn), (5, ia ri), (6, ia lf), (7, ia wa), (8, ia fo), (9, lng dn), (10, ia ha), (11, ia pa), (12, ia bl), (105, bkc o bv), (106, ia u1), (107, ia u2), (108, ia u3), (109, ia u4)])) rfl rfl rfl rfl hlen rfl rfl rfl (hy.up (by decide)) rfl ?_
          refine RT_step (pc2 := 6) rfl (fun _ _ => rfl) ?_
          refine RT_step (pc2 := 7) rfl (fun _ _ => rfl) ?_
          refine rt_ico rfl ki_m1 ?_
          refine biF_ne rfl (n_m1 (by omega)) ?_
          refine RT_step (pc2 := 14) rfl (fun _ _ => rfl) ?_
          refine ow_gf rfl rfl rfl hlen rfl ?_
          refine rt_bip rfl k8_40 ?_
          refine biF_lt rfl (n_nlt (by omega) (by omega)) ?_
          refine RT_step (pc2 := 23) rfl (fun _ _ => rfl) ?_
          refine rt_ico rfl ki_4 ?_
          refine ow_iv1 (l2 := ((1, T) :: (2, bcl bs) :: [(3, dcl3 P Dn lw cl id gl bo), (4, lng pn), (5, ia ri), (6, ia lf), (7, ia wa), (8, ia fo), (9, lng dn), (10, ia ha), (11, ia pa), (12, ia bl), (105, bkc o bv), (106, ia u1), (107, ia u2), (108, ia u3), (109, ia u4)])) rfl rfl rfl rfl hlen rfl rfl rfl ((hx _ (ov_hl hlen) (ov_at rfl (ov_lt hlen (by decide))) (ov_at rfl (ov_lt hlen (by decide)))).up (by decide)) rfl ?_
          exact ow_irt rfl rfl rfl
        · refine FR_st2 (l2 := ((180, M) :: (181, mtl ts) :: [(182, ia nw), (187, lng nz), (200, ia li)])) rfl rfl rfl ?_
          refine RT_step (pc2 := 1) rfl (fun _ _ => rfl) ?_
          refine rt_bip rfl k8_16 ?_
          refine ow_iv1 (l2 := ((180, mcl (Int32.ofNat 0) (Int32.ofNat 0) n lim a pl (km kd) nm sg (Int32.ofNat 0) qm wd td (posb vs o)) :: (181, mtl ts) :: [(182, ia nw), (187, lng nz), (200, ia li)])) rfl rfl rfl rfl hlen rfl rfl rfl ((m_isWord (k := 16) (ov_hl hlen) (ov_at rfl (ov_lt hlen (by decide))) (km_is kd t.2.2.2.1).2.2.2.2.2 (by decide)).up (by omega)) rfl ?_
          refine RT_step (pc2 := 7) rfl (fun _ _ => rfl) ?_
          refine RT_step (pc2 := 8) rfl (fun _ _ => rfl) ?_
          refine bcT_ne rfl (b01_f hd0) ?_
          refine RT_step (pc2 := 12) rfl (fun _ _ => rfl) ?_
          refine ow_iv1 (l2 := ((180, mcl (Int32.ofNat 0) (Int32.ofNat 0) n lim a pl (km kd) nm sg (Int32.ofNat 0) qm wd td (posb vs o)) :: (181, mtl ts) :: [(182, ia nw), (187, lng nz), (200, ia li)])) rfl rfl rfl rfl hlen rfl rfl rfl ((m_isName (ov_hl hlen) (ov_at rfl (ov_lt hlen (by decide))) (km_is kd t.2.2.2.1).2.2.2.2.2).up (by omega)) rfl ?_
          refine bcF_ne rfl (b01_t hnm) ?_
          refine RT_step (pc2 := 25) rfl (fun _ _ => rfl) ?_
          refine ow_gf rfl rfl rfl hlen rfl ?_
          refine rt_ico rfl ki_0 ?_
          refine RT_step (pc2 := 30) rfl (fun _ _ => rfl) ?_
          refine ow_gf rfl rfl rfl hlen rfl ?_
          refine rt_ico rfl ki_0 ?_
          refine ow_ialN rfl rfl hv (by omega) hlen rfl ?_
          refine RT_step (pc2 := 36) rfl (fun _ _ => rfl) ?_
          refine ow_gf rfl rfl rfl hlen rfl ?_
          refine ow_is1 (l2 := ((180, mcl (Int32.ofNat 0) (Int32.ofNat 0) n lim a pl (km kd) nm sg (Int32.ofNat 0) qm wd td (posb vs o)) :: (181, mtl ts) :: [(182, ia nw), (187, lng nz), (200, ia li)])) rfl rfl rfl rfl rfl ((m_find7 (bs0 := 0) (cnt := P) (ov_hl hlen) (ov_at rfl (ov_lt hlen (by decide))) (by omega) (by omega)).up (by omega)) rfl ?_
          rw [show fdI (fd nz wd 0 P 0) = Int32.ofNat j0 from by rw [g0]; rfl]
          refine rt_ico rfl ki_m1 ?_
          refine biF_ne rfl (n_m1 (by omega)) ?_
          refine RT_step (pc2 := 53) rfl (fun _ _ => rfl) ?_
          refine ow_gf rfl rfl rfl hlen rfl ?_
          refine rt_bip rfl k8_40 ?_
          refine biT_ne rfl (n_eq co) ?_
          refine RT_step (pc2 := 62) rfl (fun _ _ => rfl) ?_
          refine rt_ico rfl ki_4 ?_
          refine ow_iv1 (l2 := ((180, M) :: (181, mtl ts) :: [(182, ia nw), (187, lng nz), (200, ia li)])) rfl rfl rfl rfl hlen rfl rfl rfl ((hm _ (ov_hl hlen) (ov_at rfl (ov_lt hlen (by decide))) (ov_at rfl (ov_lt hlen (by decide)))).up (by omega)) rfl ?_
          exact ow_irt rfl rfl rfl
      have ho : o < 40 := by omega
      obtain ⟨T1, M1, c1, x1, m1⟩ := s_adv hB hM hb hn hl (po := (posb vs o)) (pl := pl) (tk := tk) (td := td) (fp := fp) (plM := qm) t (by omega) (by omega)
      obtain ⟨a1, kd1, pl1, w1, le1, nu1, fp1, nm1, sg1, qm1, wd1, rfl, rfl, t1⟩ := c1
      have hw1 := t1.2.2.2.2.1
      have ln4 : ((((li.set (4 * o) (Int32.ofNat 5)).set (4 * o + 1) (Int32.ofNat j0)).set (4 * o + 2) (Int32.ofNat 0)).set (4 * o + 3) (Int32.ofNat 0)).length = 160 := by simp only [List.length_set]; exact ln
      rcases vb_cases w1 hw1 with ⟨jv, sw⟩ | ⟨jv, cv⟩ | ⟨jv, cv⟩ | ⟨jv, cv⟩ | ⟨jv, cv⟩ | ⟨jv, cv⟩
      · obtain ⟨T, M, f, hx, hm⟩ := s_ref (bs := bs) (ts := ts) (lim := lim) (po := (posb vs o)) (pl := pl1) (tk := tk) (td := td) (fp := fp1) (plM := qm1) t1 (kk := 1) (by decide) (by decide) (Or.inr rfl)
        refine Or.inl ⟨T, M, ((((li.set (4 * o) (Int32.ofNat 5)).set (4 * o + 1) (Int32.ofNat j0)).set (4 * o + 2) (Int32.ofNat 0)).set (4 * o + 3) (Int32.ofNat 0)), f, by simp only [List.length_set]; exact ln, fun H hlen => ?_, fun H hlen => ?_⟩
        · have hz : FR 2 71 [.ref 1, .ref 4, .int (Int32.ofNat P)] (ov H ((1, tcl n lim a kd pl w le nu tk (Int32.ofNat 0) fp) :: (2, bcl bs) :: [(3, dcl3 P Dn lw cl id gl bo), (4, lng pn), (5, ia ri), (6, ia lf), (7, ia wa), (8, ia fo), (9, lng dn), (10, ia ha), (11, ia pa), (12, ia bl), (105, bkc o bv), (106, ia u1), (107, ia u2), (108, ia u3), (109, ia u4)])) (some (.int (Int32.ofNat j0)), ov (ov H ((1, tcl n lim a kd pl w le nu tk (Int32.ofNat 0) fp) :: (2, bcl bs) :: [(3, dcl3 P Dn lw cl id gl bo), (4, lng pn), (5, ia ri), (6, ia lf), (7, ia wa), (8, ia fo), (9, lng dn), (10, ia ha), (11, ia pa), (12, ia bl), (105, bkc o bv), (106, ia u1), (107, ia u2), (108, ia u3), (109, ia u4)])) [(1, tcl n lim a kd pl w le nu tk (Int32.ofNat 0) fp)]) := by
            refine FR_st2 (l2 := ((1, tcl n lim a kd pl w le nu tk (Int32.ofNat 0) fp) :: (2, bcl bs) :: [(3, dcl3 P Dn lw cl id gl bo), (4, lng pn), (5, ia ri), (6, ia lf), (7, ia wa), (8, ia fo), (9, lng dn), (10, ia ha), (11, ia pa), (12, ia bl), (105, bkc o bv), (106, ia u1), (107, ia u2), (108, ia u3), (109, ia u4)])) rfl rfl rfl ?_
            refine RT_step (pc2 := 1) rfl (fun _ _ => rfl) ?_
            refine ow_gf rfl rfl rfl hlen rfl ?_
            refine RT_step (pc2 := 7) rfl (fun _ _ => rfl) ?_
            refine rt_acE rfl (by omega) (by omega) ?_
            refine RT_if c ?_
            refine RT_step (pc2 := 19) rfl (fun _ _ => rfl) ?_
            refine RT_step (pc2 := 20) rfl (fun _ _ => rfl) ?_
            refine RT_step (pc2 := 21) rfl (fun _ _ => rfl) ?_
            refine ow_gf rfl rfl rfl hlen rfl ?_
            refine ow_is1 rfl rfl rfl rfl rfl ((x_find4 (ov_hl hlen) (ov_at rfl (ov_lt hlen (by decide))) (by omega) (by omega)).up (by decide)) rfl ?_
            rw [show fdI (fd pn le 0 P 0) = Int32.ofNat j0 from by rw [e0]; rfl]
            refine RT_step (pc2 := 28) rfl (fun _ _ => rfl) ?_
            refine RT_step (pc2 := 29) rfl (fun _ _ => rfl) ?_
            refine rt_ico rfl ki_m1 ?_
            refine biF_ne rfl (n_m1 (by omega)) ?_
            refine RT_step (pc2 := 40) rfl (fun _ _ => rfl) ?_
            exact ow_irt rfl rfl rfl
          have hy : FR 3 73 [.ref 3, .ref 1] (ov H ((1, tcl n lim a kd pl w le nu tk (Int32.ofNat 0) fp) :: (2, bcl bs) :: [(3, dcl3 P Dn lw cl id gl bo), (4, lng pn), (5, ia ri), (6, ia lf), (7, ia wa), (8, ia fo), (9, lng dn), (10, ia ha), (11, ia pa), (12, ia bl), (105, bkc o bv), (106, ia u1), (107, ia u2), (108, ia u3), (109, ia u4)])) (some (.int (Int32.ofNat j0)), ov (ov H ((1, tcl n lim a kd pl w le nu tk (Int32.ofNat 0) fp) :: (2, bcl bs) :: [(3, dcl3 P Dn lw cl id gl bo), (4, lng pn), (5, ia ri), (6, ia lf), (7, ia wa), (8, ia fo), (9, lng dn), (10, ia ha), (11, ia pa), (12, ia bl), (105, bkc o bv), (106, ia u1), (107, ia u2), (108, ia u3), (109, ia u4)])) [(1, tcl n lim a kd pl w le nu tk (Int32.ofNat 0) fp)]) := by
            refine FR_st2 (l2 := ((1, tcl n lim a kd pl w le nu tk (Int32.ofNat 0) fp) :: (2, bcl bs) :: [(3, dcl3 P Dn lw cl id gl bo), (4, lng pn), (5, ia ri), (6, ia lf), (7, ia wa), (8, ia fo), (9, lng dn), (10, ia ha), (11, ia pa), (12, ia bl), (105, bkc o bv), (106, ia u1), (107, ia u2), (108, ia u3), (109, ia u4)])) rfl rfl rfl ?_
            refine RT_step (pc2 := 1) rfl (fun _ _ => rfl) ?_
            refine RT_step (pc2 := 2) rfl (fun _ _ => rfl) ?_
            refine ow_gf rfl rfl rfl hlen rfl ?_
            refine RT_step (pc2 := 6) rfl (fun _ _ => rfl) ?_
            refine ow_gf rfl rfl rfl hlen rfl ?_
            refine ow_is1 (l2 := ((1, tcl n lim a kd pl w le nu tk (Int32.ofNat 0) fp) :: (2, bcl bs) :: [(3, dcl3 P Dn lw cl id gl bo), (4, lng pn), (5, ia ri), (6, ia lf), (7, ia wa), (8, ia fo), (9, lng dn), (10, ia ha), (11, ia pa), (12, ia bl), (105, bkc o bv), (106, ia u1), (107, ia u2), (108, ia u3), (109, ia u4)])) rfl rfl rfl rfl rfl (hz.up (by decide)) rfl ?_
            exact ow_irt rfl rfl rfl
          refine FR_st2 (l2 := ((1, T) :: (2, bcl bs) :: [(3, dcl3 P Dn lw cl id gl bo), (4, lng pn), (5, ia ri), (6, ia lf), (7, ia wa), (8, ia fo), (9, lng dn), (10, ia ha), (11, ia pa), (12, ia bl), (105, bkc o bv), (106, ia u1), (107, ia u2), (108, ia u3), (109, ia u4)])) rfl rfl rfl ?_
          refine RT_step (pc2 := 1) rfl (fun _ _ => rfl) ?_
          refine RT_step (pc2 := 2) rfl (fun _ _ => rfl) ?_
          refine ow_iv1 (l2 := ((1, tcl n lim a kd pl w le nu tk (Int32.ofNat 0) fp) :: (2, bcl bs) :: [(3, dcl3 P Dn lw cl id gl bo), (4, lng pn), (5, ia ri), (6, ia lf), (7, ia wa), (8, ia fo), (9, lng dn), (10, ia ha), (11, ia pa), (12, ia bl), (105, bkc o bv), (106, ia u1), (107, ia u2), (108, ia u3), (109, ia u4)])) rfl rfl rfl rfl hlen rfl rfl rfl (hy.up (by decide)) rfl ?_
          refine RT_step (pc2 := 6) rfl (fun _ _ => rfl) ?_
          refine RT_step (pc2 := 7) rfl (fun _ _ => rfl) ?_
          refine rt_ico rfl ki_m1 ?_
          refine biF_ne rfl (n_m1 (by omega)) ?_
          refine RT_step (pc2 := 14) rfl (fun _ _ => rfl) ?_
          refine ow_gf rfl rfl rfl hlen rfl ?_
          refine rt_bip rfl k8_40 ?_
          refine biT_lt rfl (n_lt (by omega) (by omega)) ?_
          refine RT_step (pc2 := 29) rfl (fun _ _ => rfl) ?_
          refine ow_iv0 (l2 := ((1, tcl n lim a1 kd1 pl1 w1 le1 nu1 tk (Int32.ofNat 0) fp1) :: (2, bcl bs) :: [(3, dcl3 P Dn lw cl id gl bo), (4, lng pn), (5, ia ri), (6, ia lf), (7, ia wa), (8, ia fo), (9, lng dn), (10, ia ha), (11, ia pa), (12, ia bl), (105, bkc o bv), (106, ia u1), (107, ia u2), (108, ia u3), (109, ia u4)])) rfl rfl rfl rfl hlen rfl rfl rfl ((x1 _ (ov_hl hlen) (ov_at rfl (ov_lt hlen (by decide))) (ov_at rfl (ov_lt hlen (by decide)))).up (by decide)) rfl ?_
          refine RT_step (pc2 := 33) rfl (fun _ _ => rfl) ?_
          refine ow_gf rfl rfl rfl hlen rfl ?_
          refine RT_step (pc2 := 38) rfl (fun _ _ => rfl) ?_
          refine RT_step (pc2 := 41) rfl (fun _ _ => rfl) ?_
          refine RT_step (pc2 := 43) rfl (fun _ _ => rfl) ?_
          refine rt_ord rfl hw1 rfl ?_
          refine rt_isw rfl (sw_rd hw1) ?_
          refine rt_tsD (t := 132) rfl sw rfl ?_
          refine RT_step (pc2 := 133) rfl (fun _ _ => rfl) ?_
          refine rt_ico rfl ki_1 ?_
          refine ow_iv1 (l2 := ((1, T) :: (2, bcl bs) :: [(3, dcl3 P Dn lw cl id gl bo), (4, lng pn), (5, ia ri), (6, ia lf), (7, ia wa), (8, ia fo), (9, lng dn), (10, ia ha), (11, ia pa), (12, ia bl), (105, bkc o bv), (106, ia u1), (107, ia u2), (108, ia u3), (109, ia u4)])) rfl rfl rfl rfl hlen rfl rfl rfl ((hx _ (ov_hl hlen) (ov_at rfl (ov_lt hlen (by decide))) (ov_at rfl (ov_lt hlen (by decide)))).up (by decide)) rfl ?_
          exact ow_irt rfl rfl rfl
        · have hv2 : FR 8 250 [.ref 180, .int (Int32.ofNat (4 * o))] (ov H ((180, mcl (Int32.ofNat 0) (Int32.ofNat 0) n lim a1 pl1 (km kd1) nm1 sg1 (Int32.ofNat 0) qm1 wd1 td (posb vs o)) :: (181, mtl ts) :: [(182, ia nw), (187, lng nz), (200, ia ((((li.set (4 * o) (Int32.ofNat 5)).set (4 * o + 1) (Int32.ofNat j0)).set (4 * o + 2) (Int32.ofNat 0)).set (4 * o + 3) (Int32.ofNat 0)))])) (some (.int (Int32.ofNat 0)), ov (ov H ((180, mcl (Int32.ofNat 0) (Int32.ofNat 0) n lim a1 pl1 (km kd1) nm1 sg1 (Int32.ofNat 0) qm1 wd1 td (posb vs o)) :: (181, mtl ts) :: [(182, ia nw), (187, lng nz), (200, ia ((((li.set (4 * o) (Int32.ofNat 5)).set (4 * o + 1) (Int32.ofNat j0)).set (4 * o + 2) (Int32.ofNat 0)).set (4 * o + 3) (Int32.ofNat 0)))])) [(180, M)]) := by
            refine FR_st2 (l2 := ((180, M) :: (181, mtl ts) :: [(182, ia nw), (187, lng nz), (200, ia ((((li.set (4 * o) (Int32.ofNat 5)).set (4 * o + 1) (Int32.ofNat j0)).set (4 * o + 2) (Int32.ofNat 0)).set (4 * o + 3) (Int32.ofNat 0)))])) rfl rfl rfl ?_
            refine rt_bip rfl k8_8 ?_
            refine RT_step (pc2 := 3) rfl (fun _ _ => rfl) ?_
            refine m_vl (z := Int32.ofNat (4 * o)) hlen (km_is kd1 t1.2.2.2.1).2.2.2.2.2 5 8 _ rfl rfl rfl rfl (fun L2 l0 l1 lw => ?_)
            rw [wj_le t1 5 8 (by decide), jv] at lw
            refine rt_ild rfl lw ?_
            refine rt_bip rfl k8_12 ?_
            refine biF_le rfl (n_nle (by decide) (by decide)) ?_
            refine rt_ald rfl l0 ?_
            refine rt_ico rfl ki_1 ?_
            refine ow_iv1 (l2 := ((180, M) :: (181, mtl ts) :: [(182, ia nw), (187, lng nz), (200, ia ((((li.set (4 * o) (Int32.ofNat 5)).set (4 * o + 1) (Int32.ofNat j0)).set (4 * o + 2) (Int32.ofNat 0)).set (4 * o + 3) (Int32.ofNat 0)))])) rfl rfl rfl rfl hlen rfl rfl rfl ((hm _ (ov_hl hlen) (ov_at rfl (ov_lt hlen (by decide))) (ov_at rfl (ov_lt hlen (by decide)))).up (by omega)) rfl ?_
            exact ow_irt rfl rfl rfl
          refine FR_st2 (l2 := ((180, M) :: (181, mtl ts) :: [(182, ia nw), (187, lng nz), (200, ia ((((li.set (4 * o) (Int32.ofNat 5)).set (4 * o + 1) (Int32.ofNat j0)).set (4 * o + 2) (Int32.ofNat 0)).set (4 * o + 3) (Int32.ofNat 0)))])) rfl rfl rfl ?_
          refine RT_step (pc2 := 1) rfl (fun _ _ => rfl) ?_
          refine rt_bip rfl k8_16 ?_
          refine ow_iv1 (l2 := ((180, mcl (Int32.ofNat 0) (Int32.ofNat 0) n lim a pl (km kd) nm sg (Int32.ofNat 0) qm wd td (posb vs o)) :: (181, mtl ts) :: [(182, ia nw), (187, lng nz), (200, ia li)])) rfl rfl rfl rfl hlen rfl rfl rfl ((m_isWord (k := 16) (ov_hl hlen) (ov_at rfl (ov_lt hlen (by decide))) (km_is kd t.2.2.2.1).2.2.2.2.2 (by decide)).up (by omega)) rfl ?_
          refine RT_step (pc2 := 7) rfl (fun _ _ => rfl) ?_
          refine RT_step (pc2 := 8) rfl (fun _ _ => rfl) ?_
          refine bcT_ne rfl (b01_f hd0) ?_
          refine RT_step (pc2 := 12) rfl (fun _ _ => rfl) ?_
          refine ow_iv1 (l2 := ((180, mcl (Int32.ofNat 0) (Int32.ofNat 0) n lim a pl (km kd) nm sg (Int32.ofNat 0) qm wd td (posb vs o)) :: (181, mtl ts) :: [(182, ia nw), (187, lng nz), (200, ia li)])) rfl rfl rfl rfl hlen rfl rfl rfl ((m_isName (ov_hl hlen) (ov_at rfl (ov_lt hlen (by decide))) (km_is kd t.2.2.2.1).2.2.2.2.2).up (by omega)) rfl ?_
          refine bcF_ne rfl (b01_t hnm) ?_
          refine RT_step (pc2 := 25) rfl (fun _ _ => rfl) ?_
          refine ow_gf rfl rfl rfl hlen rfl ?_
          refine rt_ico rfl ki_0 ?_
          refine RT_step (pc2 := 30) rfl (fun _ _ => rfl) ?_
          refine ow_gf rfl rfl rfl hlen rfl ?_
          refine rt_ico rfl ki_0 ?_
          refine ow_ialN rfl rfl hv (by omega) hlen rfl ?_
          refine RT_step (pc2 := 36) rfl (fun _ _ => rfl) ?_
          refine ow_gf rfl rfl rfl hlen rfl ?_
          refine ow_is1 (l2 := ((180, mcl (Int32.ofNat 0) (Int32.ofNat 0) n lim a pl (km kd) nm sg (Int32.ofNat 0) qm wd td (posb vs o)) :: (181, mtl ts) :: [(182, ia nw), (187, lng nz), (200, ia li)])) rfl rfl rfl rfl rfl ((m_find7 (bs0 := 0) (cnt := P) (ov_hl hlen) (ov_at rfl (ov_lt hlen (by decide))) (by omega) (by omega)).up (by omega)) rfl ?_
          rw [show fdI (fd nz wd 0 P 0) = Int32.ofNat j0 from by rw [g0]; rfl]
          refine rt_ico rfl ki_m1 ?_
          refine biF_ne rfl (n_m1 (by omega)) ?_
          refine RT_step (pc2 := 53) rfl (fun _ _ => rfl) ?_
          refine ow_gf rfl rfl rfl hlen rfl ?_
          refine rt_bip rfl k8_40 ?_
          refine biF_ne rfl (n_ne co (by omega) (by omega)) ?_
          refine rt_ico rfl ki_4 ?_
          refine RT_step (pc2 := 69) rfl (fun _ _ => rfl) ?_
          refine ow_gf rfl rfl rfl hlen rfl ?_
          refine ba_imul rfl ?_
          rw [nmul4]
          refine RT_step (pc2 := 74) rfl (fun _ _ => rfl) ?_
          refine RT_step (pc2 := 75) rfl (fun _ _ => rfl) ?_
          refine ow_gf rfl rfl rfl hlen rfl ?_
          refine RT_step (pc2 := 79) rfl (fun _ _ => rfl) ?_
          refine rt_ico rfl ki_5 ?_
          refine ow_iasN (l2 := ((180, mcl (Int32.ofNat 0) (Int32.ofNat 0) n lim a pl (km kd) nm sg (Int32.ofNat 0) qm wd td (posb vs o)) :: (181, mtl ts) :: [(182, ia nw), (187, lng nz), (200, ia (li.set (4 * o) (Int32.ofNat 5)))])) rfl rfl (by (try simp only [List.length_set]); omega) (by omega) hlen rfl rfl ?_
          refine RT_step (pc2 := 82) rfl (fun _ _ => rfl) ?_
          refine ow_gf rfl rfl rfl hlen rfl ?_
          refine RT_step (pc2 := 86) rfl (fun _ _ => rfl) ?_
          refine rt_ico rfl ki_1 ?_
          refine ba_iadd rfl ?_
          rw [n_add]
          refine RT_step (pc2 := 89) rfl (fun _ _ => rfl) ?_
          refine bcT_eq rfl (b01_f hd0) ?_
          refine RT_step (pc2 := 97) rfl (fun _ _ => rfl) ?_
          refine ow_gf rfl rfl rfl hlen rfl ?_
          refine rt_ico rfl ki_0 ?_
          refine RT_step (pc2 := 102) rfl (fun _ _ => rfl) ?_
          refine ow_gf rfl rfl rfl hlen rfl ?_
          refine rt_ico rfl ki_0 ?_
          refine ow_ialN rfl rfl hv (by omega) hlen rfl ?_
          refine RT_step (pc2 := 108) rfl (fun _ _ => rfl) ?_
          refine ow_gf rfl rfl rfl hlen rfl ?_
          refine ow_is1 (l2 := ((180, mcl (Int32.ofNat 0) (Int32.ofNat 0) n lim a pl (km kd) nm sg (Int32.ofNat 0) qm wd td (posb vs o)) :: (181, mtl ts) :: [(182, ia nw), (187, lng nz), (200, ia (li.set (4 * o) (Int32.ofNat 5)))])) rfl rfl rfl rfl rfl ((m_find7 (bs0 := 0) (cnt := P) (ov_hl hlen) (ov_at rfl (ov_lt hlen (by decide))) (by omega) (by omega)).up (by omega)) rfl ?_
          rw [show fdI (fd nz wd 0 P 0) = Int32.ofNat j0 from by rw [g0]; rfl]
          refine ow_iasN (l2 := ((180, mcl (Int32.ofNat 0) (Int32.ofNat 0) n lim a pl (km kd) nm sg (Int32.ofNat 0) qm wd td (posb vs o)) :: (181, mtl ts) :: [(182, ia nw), (187, lng nz), (200, ia ((li.set (4 * o) (Int32.ofNat 5)).set (4 * o + 1) (Int32.ofNat j0)))])) rfl rfl (by (try simp only [List.length_set]); omega) (by omega) hlen rfl rfl ?_
          refine RT_step (pc2 := 116) rfl (fun _ _ => rfl) ?_
          refine ow_gf rfl rfl rfl hlen rfl ?_
          refine RT_step (pc2 := 120) rfl (fun _ _ => rfl) ?_
          refine rt_ico rfl ki_2 ?_
          refine ba_iadd rfl ?_
          rw [n_add]
          refine rt_ico rfl ki_0 ?_
          refine ow_iasN (l2 := ((180, mcl (Int32.ofNat 0) (Int32.ofNat 0) n lim a pl (km kd) nm sg (Int32.ofNat 0) qm wd td (posb vs o)) :: (181, mtl ts) :: [(182, ia nw), (187, lng nz), (200, ia (((li.set (4 * o) (Int32.ofNat 5)).set (4 * o + 1) (Int32.ofNat j0)).set (4 * o + 2) (Int32.ofNat 0)))])) rfl rfl (by (try simp only [List.length_set]); omega) (by omega) hlen rfl rfl ?_
          refine RT_step (pc2 := 125) rfl (fun _ _ => rfl) ?_
          refine ow_gf rfl rfl rfl hlen rfl ?_
          refine RT_step (pc2 := 129) rfl (fun _ _ => rfl) ?_
          refine rt_ico rfl ki_3 ?_
          refine ba_iadd rfl ?_
          rw [n_add]
          refine rt_ico rfl ki_0 ?_
          refine ow_iasN (l2 := ((180, mcl (Int32.ofNat 0) (Int32.ofNat 0) n lim a pl (km kd) nm sg (Int32.ofNat 0) qm wd td (posb vs o)) :: (181, mtl ts) :: [(182, ia nw), (187, lng nz), (200, ia ((((li.set (4 * o) (Int32.ofNat 5)).set (4 * o + 1) (Int32.ofNat j0)).set (4 * o + 2) (Int32.ofNat 0)).set (4 * o + 3) (Int32.ofNat 0)))])) rfl rfl (by (try simp only [List.length_set]); omega) (by omega) hlen rfl rfl ?_
          refine RT_step (pc2 := 134) rfl (fun _ _ => rfl) ?_
          refine ow_iv0 (l2 := ((180, mcl (Int32.ofNat 0) (Int32.ofNat 0) n lim a1 pl1 (km kd1) nm1 sg1 (Int32.ofNat 0) qm1 wd1 td (posb vs o)) :: (181, mtl ts) :: [(182, ia nw), (187, lng nz), (200, ia ((((li.set (4 * o) (Int32.ofNat 5)).set (4 * o + 1) (Int32.ofNat j0)).set (4 * o + 2) (Int32.ofNat 0)).set (4 * o + 3) (Int32.ofNat 0)))])) rfl rfl rfl rfl hlen rfl rfl rfl ((m1 _ (ov_hl hlen) (ov_at rfl (ov_lt hlen (by decide))) (ov_at rfl (ov_lt hlen (by decide)))).up (by omega)) rfl ?_
          refine RT_step (pc2 := 138) rfl (fun _ _ => rfl) ?_
          refine bcT_eq rfl (b01_f hd0) ?_
          refine RT_step (pc2 := 162) rfl (fun _ _ => rfl) ?_
          refine RT_step (pc2 := 163) rfl (fun _ _ => rfl) ?_
          refine ow_iv1 (l2 := ((180, M) :: (181, mtl ts) :: [(182, ia nw), (187, lng nz), (200, ia ((((li.set (4 * o) (Int32.ofNat 5)).set (4 * o + 1) (Int32.ofNat j0)).set (4 * o + 2) (Int32.ofNat 0)).set (4 * o + 3) (Int32.ofNat 0)))])) rfl rfl rfl rfl hlen rfl rfl rfl (hv2.up (by omega)) rfl ?_
          refine bcT_eq rfl rfl ?_
          refine rt_ico rfl ki_0 ?_
          exact ow_irt rfl rfl rfl
      · subst cv
        have hk11 := w_k1 t1 (by decide)
        rcases b_does3 (vs := vs) (bv := bv) (pl := pl1) (tk := tk) (td := td) (fp := fp1) (qm := qm1) hB hM hb hn hl t1 (by omega) (by omega) jv hP hDn lp ld lz hv hv1 hN hN2 bx (li := ((((li.set (4 * o) (Int32.ofNat 5)).set (4 * o + 1) (Int32.ofNat j0)).set (4 * o + 2) (Int32.ofNat 0)).set (4 * o + 3) (Int32.ofNat 0))) ln4 ho (z := (Int32.ofNat j0)) with ⟨T, M, li2, f, ln2, h⟩ | ⟨k2, tk2, td2, T, M, v1, v2, v3, v4, li2, c2, bx2, ln2, h⟩
        · refine Or.inl ⟨T, M, li2, f, ln2, fun H hlen => ?_, fun H hlen => ?_⟩
          · have hz : FR 2 71 [.ref 1, .ref 4, .int (Int32.ofNat P)] (ov H ((1, tcl n lim a kd pl w le nu tk (Int32.ofNat 0) fp) :: (2, bcl bs) :: [(3, dcl3 P Dn lw cl id gl bo), (4, lng pn), (5, ia ri), (6, ia lf), (7, ia wa), (8, ia fo), (9, lng dn), (10, ia ha), (11, ia pa), (12, ia bl), (105, bkc o bv), (106, ia u1), (107, ia u2), (108, ia u3), (109, ia u4)])) (some (.int (Int32.ofNat j0)), ov (ov H ((1, tcl n lim a kd pl w le nu tk (Int32.ofNat 0) fp) :: (2, bcl bs) :: [(3, dcl3 P Dn lw cl id gl bo), (4, lng pn), (5, ia ri), (6, ia lf), (7, ia wa), (8, ia fo), (9, lng dn), (10, ia ha), (11, ia pa), (12, ia bl), (105, bkc o bv), (106, ia u1), (107, ia u2), (108, ia u3), (109, ia u4)])) [(1, tcl n lim a kd pl w le nu tk (Int32.ofNat 0) fp)]) := by
              refine FR_st2 (l2 := ((1, tcl n lim a kd pl w le nu tk (Int32.ofNat 0) fp) :: (2, bcl bs) :: [(3, dcl3 P Dn lw cl id gl bo), (4, lng pn), (5, ia ri), (6, ia lf), (7, ia wa), (8, ia fo), (9, lng dn), (10, ia ha), (11, ia pa), (12, ia bl), (105, bkc o bv), (106, ia u1), (107, ia u2), (108, ia u3), (109, ia u4)])) rfl rfl rfl ?_
              refine RT_step (pc2 := 1) rfl (fun _ _ => rfl) ?_
              refine ow_gf rfl rfl rfl hlen rfl ?_
              refine RT_step (pc2 := 7) rfl (fun _ _ => rfl) ?_
              refine rt_acE rfl (by omega) (by omega) ?_
              refine RT_if c ?_
              refine RT_step (pc2 := 19) rfl (fun _ _ => rfl) ?_
              refine RT_step (pc2 := 20) rfl (fun _ _ => rfl) ?_
              refine RT_step (pc2 := 21) rfl (fun _ _ => rfl) ?_
              refine ow_gf rfl rfl rfl hlen rfl ?_
              refine ow_is1 rfl rfl rfl rfl rfl ((x_find4 (ov_hl hlen) (ov_at rfl (ov_lt hlen (by decide))) (by omega) (by omega)).up (by decide)) rfl ?_
              rw [show fdI (fd pn le 0 P 0) = Int32.ofNat j0 from by rw [e0]; rfl]
              refine RT_step (pc2 := 28) rfl (fun _ _ => rfl) ?_
              refine RT_step (pc2 := 29) rfl (fun _ _ => rfl) ?_
              refine rt_ico rfl ki_m1 ?_
              refine biF_ne rfl (n_m1 (by omega)) ?_
              refine RT_step (pc2 := 40) rfl (fun _ _ => rfl) ?_
              exact ow_irt rfl rfl rfl
            have hy : FR 3 73 [.ref 3, .ref 1] (ov H ((1, tcl n lim a kd pl w le nu tk (Int32.ofNat 0) fp) :: (2, bcl bs) :: [(3, dcl3 P Dn lw cl id gl bo), (4, lng pn), (5, ia ri), (6, ia lf), (7, ia wa), (8, ia fo), (9, lng dn), (10, ia ha), (11, ia pa), (12, ia bl), (105, bkc o bv), (106, ia u1), (107, ia u2), (108, ia u3), (109, ia u4)])) (some (.int (Int32.ofNat j0)), ov (ov H ((1, tcl n lim a kd pl w le nu tk (Int32.ofNat 0) fp) :: (2, bcl bs) :: [(3, dcl3 P Dn lw cl id gl bo), (4, lng pn), (5, ia ri), (6, ia lf), (7, ia wa), (8, ia fo), (9, lng dn), (10, ia ha), (11, ia pa), (12, ia bl), (105, bkc o bv), (106, ia u1), (107, ia u2), (108, ia u3), (109, ia u4)])) [(1, tcl n lim a kd pl w le nu tk (Int32.ofNat 0) fp)]) := by
              refine FR_st2 (l2 := ((1, tcl n lim a kd pl w le nu tk (Int32.ofNat 0) fp) :: (2, bcl bs) :: [(3, dcl3 P Dn lw cl id gl bo), (4, lng pn), (5, ia ri), (6, ia lf), (7, ia wa), (8, ia fo), (9, lng dn), (10, ia ha), (11, ia pa), (12, ia bl), (105, bkc o bv), (106, ia u1), (107, ia u2), (108, ia u3), (109, ia u4)])) rfl rfl rfl ?_
              refine RT_step (pc2 := 1) rfl (fun _ _ => rfl) ?_
              refine RT_step (pc2 := 2) rfl (fun _ _ => rfl) ?_
              refine ow_gf rfl rfl rfl hlen rfl ?_
              refine RT_step (pc2 := 6) rfl (fun _ _ => rfl) ?_
              refine ow_gf rfl rfl rfl hlen rfl ?_
              refine ow_is1 (l2 := ((1, tcl n lim a kd pl w le nu tk (Int32.ofNat 0) fp) :: (2, bcl bs) :: [(3, dcl3 P Dn lw cl id gl bo), (4, lng pn), (5, ia ri), (6, ia lf), (7, ia wa), (8, ia fo), (9, lng dn), (10, ia ha), (11, ia pa), (12, ia bl), (105, bkc o bv), (106, ia u1), (107, ia u2), (108, ia u3), (109, ia u4)])) rfl rfl rfl rfl rfl (hz.up (by decide)) rfl ?_
              exact ow_irt rfl rfl rfl
            refine FR_st2 (l2 := ((1, T) :: (2, bcl bs) :: [(3, dcl3 P Dn lw cl id gl bo), (4, lng pn), (5, ia ri), (6, ia lf), (7, ia wa), (8, ia fo), (9, lng dn), (10, ia ha), (11, ia pa), (12, ia bl), (105, bkc o bv), (106, ia u1), (107, ia u2), (108, ia u3), (109, ia u4)])) rfl rfl rfl ?_
            refine RT_step (pc2 := 1) rfl (fun _ _ => rfl) ?_
            refine RT_step (pc2 := 2) rfl (fun _ _ => rfl) ?_
            refine ow_iv1 (l2 := ((1, tcl n lim a kd pl w le nu tk (Int32.ofNat 0) fp) :: (2, bcl bs) :: [(3, dcl3 P Dn lw cl id gl bo), (4, lng pn), (5, ia ri), (6, ia lf), (7, ia wa), (8, ia fo), (9, lng dn), (10, ia ha), (11, ia pa), (12, ia bl), (105, bkc o bv), (106, ia u1), (107, ia u2), (108, ia u3), (109, ia u4)])) rfl rfl rfl rfl hlen rfl rfl rfl (hy.up (by decide)) rfl ?_
            refine RT_step (pc2 := 6) rfl (fun _ _ => rfl) ?_
            refine RT_step (pc2 := 7) rfl (fun _ _ => rfl) ?_
            refine rt_ico rfl ki_m1 ?_
            refine biF_ne rfl (n_m1 (by omega)) ?_
            refine RT_step (pc2 := 14) rfl (fun _ _ => rfl) ?_
            refine ow_gf rfl rfl rfl hlen rfl ?_
            refine rt_bip rfl k8_40 ?_
            refine biT_lt rfl (n_lt (by omega) (by omega)) ?_
            refine RT_step (pc2 := 29) rfl (fun _ _ => rfl) ?_
            refine ow_iv0 (l2 := ((1, tcl n lim a1 kd1 pl1 11 le1 nu1 tk (Int32.ofNat 0) fp1) :: (2, bcl bs) :: [(3, dcl3 P Dn lw cl id gl bo), (4, lng pn), (5, ia ri), (6, ia lf), (7, ia wa), (8, ia fo), (9, lng dn), (10, ia ha), (11, ia pa), (12, ia bl), (105, bkc o bv), (106, ia u1), (107, ia u2), (108, ia u3), (109, ia u4)])) rfl rfl rfl rfl hlen rfl rfl rfl ((x1 _ (ov_hl hlen) (ov_at rfl (ov_lt hlen (by decide))) (ov_at rfl (ov_lt hlen (by decide)))).up (by decide)) rfl ?_
            refine RT_step (pc2 := 33) rfl (fun _ _ => rfl) ?_
            refine ow_gf rfl rfl rfl hlen rfl ?_
            refine RT_step (pc2 := 38) rfl (fun _ _ => rfl) ?_
            refine RT_step (pc2 := 41) rfl (fun _ _ => rfl) ?_
            refine RT_step (pc2 := 43) rfl (fun _ _ => rfl) ?_
            refine rt_ord rfl (by decide) rfl ?_
            refine rt_isw rfl (v := 8) (by decide +kernel) ?_
            refine RT_step (pc2 := 80) rfl (fun _ _ => rfl) ?_
            refine RT_step (pc2 := 81) rfl (fun _ _ => rfl) ?_
            refine RT_step (pc2 := 82) rfl (fun _ _ => rfl) ?_
            refine RT_step (pc2 := 83) rfl (fun _ _ => rfl) ?_
            refine RT_step (pc2 := 84) rfl (fun _ _ => rfl) ?_
            refine ow_iv1 (l2 := ((1, T) :: (2, bcl bs) :: [(3, dcl3 P Dn lw cl id gl bo), (4, lng pn), (5, ia ri), (6, ia lf), (7, ia wa), (8, ia fo), (9, lng dn), (10, ia ha), (11, ia pa), (12, ia bl), (105, bkc o bv), (106, ia u1), (107, ia u2), (108, ia u3), (109, ia u4)])) rfl rfl rfl rfl hlen rfl rfl rfl ((h.1 H hlen).up (by decide)) rfl ?_
            exact ow_irt rfl rfl rfl
          · refine FR_st2 (l2 := ((180, M) :: (181, mtl ts) :: [(182, ia nw), (187, lng nz), (200, ia li2)])) rfl rfl rfl ?_
            refine RT_step (pc2 := 1) rfl (fun _ _ => rfl) ?_
            refine rt_bip rfl k8_16 ?_
            refine ow_iv1 (l2 := ((180, mcl (Int32.ofNat 0) (Int32.ofNat 0) n lim a pl (km kd) nm sg (Int32.ofNat 0) qm wd td (posb vs o)) :: (181, mtl ts) :: [(182, ia nw), (187, lng nz), (200, ia li)])) rfl rfl rfl rfl hlen rfl rfl rfl ((m_isWord (k := 16) (ov_hl hlen) (ov_at rfl (ov_lt hlen (by decide))) (km_is kd t.2.2.2.1).2.2.2.2.2 (by decide)).up (by omega)) rfl ?_
            refine RT_step (pc2 := 7) rfl (fun _ _ => rfl) ?_
            refine RT_step (pc2 := 8) rfl (fun _ _ => rfl) ?_
            refine bcT_ne rfl (b01_f hd0) ?_
            refine RT_step (pc2 := 12) rfl (fun _ _ => rfl) ?_
            refine ow_iv1 (l2 := ((180, mcl (Int32.ofNat 0) (Int32.ofNat 0) n lim a pl (km kd) nm sg (Int32.ofNat 0) qm wd td (posb vs o)) :: (181, mtl ts) :: [(182, ia nw), (187, lng nz), (200, ia li)])) rfl rfl rfl rfl hlen rfl rfl rfl ((m_isName (ov_hl hlen) (ov_at rfl (ov_lt hlen (by decide))) (km_is kd t.2.2.2.1).2.2.2.2.2).up (by omega)) rfl ?_
            refine bcF_ne rfl (b01_t hnm) ?_
            refine RT_step (pc2 := 25) rfl (fun _ _ => rfl) ?_
            refine ow_gf rfl rfl rfl hlen rfl ?_
            refine rt_ico rfl ki_0 ?_
            refine RT_step (pc2 := 30) rfl (fun _ _ => rfl) ?_
            refine ow_gf rfl rfl rfl hlen rfl ?_
            refine rt_ico rfl ki_0 ?_
            refine ow_ialN rfl rfl hv (by omega) hlen rfl ?_
            refine RT_step (pc2 := 36) rfl (fun _ _ => rfl) ?_
            refine ow_gf rfl rfl rfl hlen rfl ?_
            refine ow_is1 (l2 := ((180, mcl (Int32.ofNat 0) (Int32.ofNat 0) n lim a pl (km kd) nm sg (Int32.ofNat 0) qm wd td (posb vs o)) :: (181, mtl ts) :: [(182, ia nw), (187, lng nz), (200, ia li)])) rfl rfl rfl rfl rfl ((m_find7 (bs0 := 0) (cnt := P) (ov_hl hlen) (ov_at rfl (ov_lt hlen (by decide))) (by omega) (by omega)).up (by omega)) rfl ?_
            rw [show fdI (fd nz wd 0 P 0) = Int32.ofNat j0 from by rw [g0]; rfl]
            refine rt_ico rfl ki_m1 ?_
            refine biF_ne rfl (n_m1 (by omega)) ?_
            refine RT_step (pc2 := 53) rfl (fun _ _ => rfl) ?_
            refine ow_gf rfl rfl rfl hlen rfl ?_
            refine rt_bip rfl k8_40 ?_
            refine biF_ne rfl (n_ne co (by omega) (by omega)) ?_
            refine rt_ico rfl ki_4 ?_
            refine RT_step (pc2 := 69) rfl (fun _ _ => rfl) ?_
            refine ow_gf rfl rfl rfl hlen rfl ?_
            refine ba_imul rfl ?_
            rw [nmul4]
            refine RT_step (pc2 := 74) rfl (fun _ _ => rfl) ?_
            refine RT_step (pc2 := 75) rfl (fun _ _ => rfl) ?_
            refine ow_gf rfl rfl rfl hlen rfl ?_
            refine RT_step (pc2 := 79) rfl (fun _ _ => rfl) ?_
            refine rt_ico rfl ki_5 ?_
            refine ow_iasN (l2 := ((180, mcl (Int32.ofNat 0) (Int32.ofNat 0) n lim a pl (km kd) nm sg (Int32.ofNat 0) qm wd td (posb vs o)) :: (181, mtl ts) :: [(182, ia nw), (187, lng nz), (200, ia (li.set (4 * o) (Int32.ofNat 5)))])) rfl rfl (by (try simp only [List.length_set]); omega) (by omega) hlen rfl rfl ?_
            refine RT_step (pc2 := 82) rfl (fun _ _ => rfl) ?_
            refine ow_gf rfl rfl rfl hlen rfl ?_
            refine RT_step (pc2 := 86) rfl (fun _ _ => rfl) ?_
            refine rt_ico rfl ki_1 ?_
            refine ba_iadd rfl ?_
            rw [n_add]
            refine RT_step (pc2 := 89) rfl (fun _ _ => rfl) ?_
            refine bcT_eq rfl (b01_f hd0) ?_
            refine RT_step (pc2 := 97) rfl (fun _ _ => rfl) ?_
            refine ow_gf rfl rfl rfl hlen rfl ?_
            refine rt_ico rfl ki_0 ?_
            refine RT_step (pc2 := 102) rfl (fun _ _ => rfl) ?_
            refine ow_gf rfl rfl rfl hlen rfl ?_
            refine rt_ico rfl ki_0 ?_
            refine ow_ialN rfl rfl hv (by omega) hlen rfl ?_
            refine RT_step (pc2 := 108) rfl (fun _ _ => rfl) ?_
            refine ow_gf rfl rfl rfl hlen rfl ?_
            refine ow_is1 (l2 := ((180, mcl (Int32.ofNat 0) (Int32.ofNat 0) n lim a pl (km kd) nm sg (Int32.ofNat 0) qm wd td (posb vs o)) :: (181, mtl ts) :: [(182, ia nw), (187, lng nz), (200, ia (li.set (4 * o) (Int32.ofNat 5)))])) rfl rfl rfl rfl rfl ((m_find7 (bs0 := 0) (cnt := P) (ov_hl hlen) (ov_at rfl (ov_lt hlen (by decide))) (by omega) (by omega)).up (by omega)) rfl ?_
            rw [show fdI (fd nz wd 0 P 0) = Int32.ofNat j0 from by rw [g0]; rfl]
            refine ow_iasN (l2 := ((180, mcl (Int32.ofNat 0) (Int32.ofNat 0) n lim a pl (km kd) nm sg (Int32.ofNat 0) qm wd td (posb vs o)) :: (181, mtl ts) :: [(182, ia nw), (187, lng nz), (200, ia ((li.set (4 * o) (Int32.ofNat 5)).set (4 * o + 1) (Int32.ofNat j0)))])) rfl rfl (by (try simp only [List.length_set]); omega) (by omega) hlen rfl rfl ?_
            refine RT_step (pc2 := 116) rfl (fun _ _ => rfl) ?_
            refine ow_gf rfl rfl rfl hlen rfl ?_
            refine RT_step (pc2 := 120) rfl (fun _ _ => rfl) ?_
            refine rt_ico rfl ki_2 ?_
            refine ba_iadd rfl ?_
            rw [n_add]
            refine rt_ico rfl ki_0 ?_
            refine ow_iasN (l2 := ((180, mcl (Int32.ofNat 0) (Int32.ofNat 0) n lim a pl (km kd) nm sg (Int32.ofNat 0) qm wd td (posb vs o)) :: (181, mtl ts) :: [(182, ia nw), (187, lng nz), (200, ia (((li.set (4 * o) (Int32.ofNat 5)).set (4 * o + 1) (Int32.ofNat j0)).set (4 * o + 2) (Int32.ofNat 0)))])) rfl rfl (by (try simp only [List.length_set]); omega) (by omega) hlen rfl rfl ?_
            refine RT_step (pc2 := 125) rfl (fun _ _ => rfl) ?_
            refine ow_gf rfl rfl rfl hlen rfl ?_
            refine RT_step (pc2 := 129) rfl (fun _ _ => rfl) ?_
            refine rt_ico rfl ki_3 ?_
            refine ba_iadd rfl ?_
            rw [n_add]
            refine rt_ico rfl ki_0 ?_
            refine ow_iasN (l2 := ((180, mcl (Int32.ofNat 0) (Int32.ofNat 0) n lim a pl (km kd) nm sg (Int32.ofNat 0) qm wd td (posb vs o)) :: (181, mtl ts) :: [(182, ia nw), (187, lng nz), (200, ia ((((li.set (4 * o) (Int32.ofNat 5)).set (4 * o + 1) (Int32.ofNat j0)).set (4 * o + 2) (Int32.ofNat 0)).set (4 * o + 3) (Int32.ofNat 0)))])) rfl rfl (by (try simp only [List.length_set]); omega) (by omega) hlen rfl rfl ?_
            refine RT_step (pc2 := 134) rfl (fun _ _ => rfl) ?_
            refine ow_iv0 (l2 := ((180, mcl (Int32.ofNat 0) (Int32.ofNat 0) n lim a1 pl1 (km kd1) nm1 sg1 (Int32.ofNat 0) qm1 wd1 td (posb vs o)) :: (181, mtl ts) :: [(182, ia nw), (187, lng nz), (200, ia ((((li.set (4 * o) (Int32.ofNat 5)).set (4 * o + 1) (Int32.ofNat j0)).set (4 * o + 2) (Int32.ofNat 0)).set (4 * o + 3) (Int32.ofNat 0)))])) rfl rfl rfl rfl hlen rfl rfl rfl ((m1 _ (ov_hl hlen) (ov_at rfl (ov_lt hlen (by decide))) (ov_at rfl (ov_lt hlen (by decide)))).up (by omega)) rfl ?_
            refine RT_step (pc2 := 138) rfl (fun _ _ => rfl) ?_
            refine bcT_eq rfl (b01_f hd0) ?_
            refine RT_step (pc2 := 162) rfl (fun _ _ => rfl) ?_
            refine RT_step (pc2 := 163) rfl (fun _ _ => rfl) ?_
            refine ow_iv1 (l2 := ((180, M) :: (181, mtl ts) :: [(182, ia nw), (187, lng nz), (200, ia li2)])) rfl rfl rfl rfl hlen rfl rfl rfl ((h.2 H hlen).up (by omega)) rfl ?_
            refine bcT_eq rfl rfl ?_
            refine rt_ico rfl ki_0 ?_
            exact ow_irt rfl rfl rfl
        · refine Or.inr ⟨ho, k2, tk2, td2, T, M, v1, v2, v3, v4, li2, c2, bx2, ln2, fun H hlen => ?_, fun H dd q hlen hq => ?_⟩
          · have hz : FR 2 71 [.ref 1, .ref 4, .int (Int32.ofNat P)] (ov H ((1, tcl n lim a kd pl w le nu tk (Int32.ofNat 0) fp) :: (2, bcl bs) :: [(3, dcl3 P Dn lw cl id gl bo), (4, lng pn), (5, ia ri), (6, ia lf), (7, ia wa), (8, ia fo), (9, lng dn), (10, ia ha), (11, ia pa), (12, ia bl), (105, bkc o bv), (106, ia u1), (107, ia u2), (108, ia u3), (109, ia u4)])) (some (.int (Int32.ofNat j0)), ov (ov H ((1, tcl n lim a kd pl w le nu tk (Int32.ofNat 0) fp) :: (2, bcl bs) :: [(3, dcl3 P Dn lw cl id gl bo), (4, lng pn), (5, ia ri), (6, ia lf), (7, ia wa), (8, ia fo), (9, lng dn), (10, ia ha), (11, ia pa), (12, ia bl), (105, bkc o bv), (106, ia u1), (107, ia u2), (108, ia u3), (109, ia u4)])) [(1, tcl n lim a kd pl w le nu tk (Int32.ofNat 0) fp)]) := by
              refine FR_st2 (l2 := ((1, tcl n lim a kd pl w le nu tk (Int32.ofNat 0) fp) :: (2, bcl bs) :: [(3, dcl3 P Dn lw cl id gl bo), (4, lng pn), (5, ia ri), (6, ia lf), (7, ia wa), (8, ia fo), (9, lng dn), (10, ia ha), (11, ia pa), (12, ia bl), (105, bkc o bv), (106, ia u1), (107, ia u2), (108, ia u3), (109, ia u4)])) rfl rfl rfl ?_
              refine RT_step (pc2 := 1) rfl (fun _ _ => rfl) ?_
              refine ow_gf rfl rfl rfl hlen rfl ?_
              refine RT_step (pc2 := 7) rfl (fun _ _ => rfl) ?_
              refine rt_acE rfl (by omega) (by omega) ?_
              refine RT_if c ?_
              refine RT_step (pc2 := 19) rfl (fun _ _ => rfl) ?_
              refine RT_step (pc2 := 20) rfl (fun _ _ => rfl) ?_
              refine RT_step (pc2 := 21) rfl (fun _ _ => rfl) ?_
              refine ow_gf rfl rfl rfl hlen rfl ?_
              refine ow_is1 rfl rfl rfl rfl rfl ((x_find4 (ov_hl hlen) (ov_at rfl (ov_lt hlen (by decide))) (by omega) (by omega)).up (by decide)) rfl ?_
              rw [show fdI (fd pn le 0 P 0) = Int32.ofNat j0 from by rw [e0]; rfl]
              refine RT_step (pc2 := 28) rfl (fun _ _ => rfl) ?_
              refine RT_step (pc2 := 29) rfl (fun _ _ => rfl) ?_
              refine rt_ico rfl ki_m1 ?_
              refine biF_ne rfl (n_m1 (by omega)) ?_
              refine RT_step (pc2 := 40) rfl (fun _ _ => rfl) ?_
              exact ow_irt rfl rfl rfl
            have hy : FR 3 73 [.ref 3, .ref 1] (ov H ((1, tcl n lim a kd pl w le nu tk (Int32.ofNat 0) fp) :: (2, bcl bs) :: [(3, dcl3 P Dn lw cl id gl bo), (4, lng pn), (5, ia ri), (6, ia lf), (7, ia wa), (8, ia fo), (9, lng dn), (10, ia ha), (11, ia pa), (12, ia bl), (105, bkc o bv), (106, ia u1), (107, ia u2), (108, ia u3), (109, ia u4)])) (some (.int (Int32.ofNat j0)), ov (ov H ((1, tcl n lim a kd pl w le nu tk (Int32.ofNat 0) fp) :: (2, bcl bs) :: [(3, dcl3 P Dn lw cl id gl bo), (4, lng pn), (5, ia ri), (6, ia lf), (7, ia wa), (8, ia fo), (9, lng dn), (10, ia ha), (11, ia pa), (12, ia bl), (105, bkc o bv), (106, ia u1), (107, ia u2), (108, ia u3), (109, ia u4)])) [(1, tcl n lim a kd pl w le nu tk (Int32.ofNat 0) fp)]) := by
              refine FR_st2 (l2 := ((1, tcl n lim a kd pl w le nu tk (Int32.ofNat 0) fp) :: (2, bcl bs) :: [(3, dcl3 P Dn lw cl id gl bo), (4, lng pn), (5, ia ri), (6, ia lf), (7, ia wa), (8, ia fo), (9, lng dn), (10, ia ha), (11, ia pa), (12, ia bl), (105, bkc o bv), (106, ia u1), (107, ia u2), (108, ia u3), (109, ia u4)])) rfl rfl rfl ?_
              refine RT_step (pc2 := 1) rfl (fun _ _ => rfl) ?_
              refine RT_step (pc2 := 2) rfl (fun _ _ => rfl) ?_
              refine ow_gf rfl rfl rfl hlen rfl ?_
              refine RT_step (pc2 := 6) rfl (fun _ _ => rfl) ?_
              refine ow_gf rfl rfl rfl hlen rfl ?_
              refine ow_is1 (l2 := ((1, tcl n lim a kd pl w le nu tk (Int32.ofNat 0) fp) :: (2, bcl bs) :: [(3, dcl3 P Dn lw cl id gl bo), (4, lng pn), (5, ia ri), (6, ia lf), (7, ia wa), (8, ia fo), (9, lng dn), (10, ia ha), (11, ia pa), (12, ia bl), (105, bkc o bv), (106, ia u1), (107, ia u2), (108, ia u3), (109, ia u4)])) rfl rfl rfl rfl rfl (hz.up (by decide)) rfl ?_
              exact ow_irt rfl rfl rfl
            refine FR_st2 (l2 := ((1, T) :: (2, bcl bs) :: [(3, dcl3 P Dn lw cl id gl bo), (4, lng pn), (5, ia ri), (6, ia lf), (7, ia wa), (8, ia fo), (9, lng dn), (10, ia ha), (11, ia pa), (12, ia bl), (105, bkc (o + 1) bv), (106, ia v1), (107, ia v2), (108, ia v3), (109, ia v4)])) rfl rfl rfl ?_
            refine RT_step (pc2 := 1) rfl (fun _ _ => rfl) ?_
            refine RT_step (pc2 := 2) rfl (fun _ _ => rfl) ?_
            refine ow_iv1 (l2 := ((1, tcl n lim a kd pl w le nu tk (Int32.ofNat 0) fp) :: (2, bcl bs) :: [(3, dcl3 P Dn lw cl id gl bo), (4, lng pn), (5, ia ri), (6, ia lf), (7, ia wa), (8, ia fo), (9, lng dn), (10, ia ha), (11, ia pa), (12, ia bl), (105, bkc o bv), (106, ia u1), (107, ia u2), (108, ia u3), (109, ia u4)])) rfl rfl rfl rfl hlen rfl rfl rfl (hy.up (by decide)) rfl ?_
            refine RT_step (pc2 := 6) rfl (fun _ _ => rfl) ?_
            refine RT_step (pc2 := 7) rfl (fun _ _ => rfl) ?_
            refine rt_ico rfl ki_m1 ?_
            refine biF_ne rfl (n_m1 (by omega)) ?_
            refine RT_step (pc2 := 14) rfl (fun _ _ => rfl) ?_
            refine ow_gf rfl rfl rfl hlen rfl ?_
            refine rt_bip rfl k8_40 ?_
            refine biT_lt rfl (n_lt (by omega) (by omega)) ?_
            refine RT_step (pc2 := 29) rfl (fun _ _ => rfl) ?_
            refine ow_iv0 (l2 := ((1, tcl n lim a1 kd1 pl1 11 le1 nu1 tk (Int32.ofNat 0) fp1) :: (2, bcl bs) :: [(3, dcl3 P Dn lw cl id gl bo), (4, lng pn), (5, ia ri), (6, ia lf), (7, ia wa), (8, ia fo), (9, lng dn), (10, ia ha), (11, ia pa), (12, ia bl), (105, bkc o bv), (106, ia u1), (107, ia u2), (108, ia u3), (109, ia u4)])) rfl rfl rfl rfl hlen rfl rfl rfl ((x1 _ (ov_hl hlen) (ov_at rfl (ov_lt hlen (by decide))) (ov_at rfl (ov_lt hlen (by decide)))).up (by decide)) rfl ?_
            refine RT_step (pc2 := 33) rfl (fun _ _ => rfl) ?_
            refine ow_gf rfl rfl rfl hlen rfl ?_
            refine RT_step (pc2 := 38) rfl (fun _ _ => rfl) ?_
            refine RT_step (pc2 := 41) rfl (fun _ _ => rfl) ?_
            refine RT_step (pc2 := 43) rfl (fun _ _ => rfl) ?_
            refine rt_ord rfl (by decide) rfl ?_
            refine rt_isw rfl (v := 8) (by decide +kernel) ?_
            refine RT_step (pc2 := 80) rfl (fun _ _ => rfl) ?_
            refine RT_step (pc2 := 81) rfl (fun _ _ => rfl) ?_
            refine RT_step (pc2 := 82) rfl (fun _ _ => rfl) ?_
            refine RT_step (pc2 := 83) rfl (fun _ _ => rfl) ?_
            refine RT_step (pc2 := 84) rfl (fun _ _ => rfl) ?_
            refine ow_iv1 (l2 := ((1, T) :: (2, bcl bs) :: [(3, dcl3 P Dn lw cl id gl bo), (4, lng pn), (5, ia ri), (6, ia lf), (7, ia wa), (8, ia fo), (9, lng dn), (10, ia ha), (11, ia pa), (12, ia bl), (105, bkc (o + 1) bv), (106, ia v1), (107, ia v2), (108, ia v3), (109, ia v4)])) rfl rfl rfl rfl hlen rfl rfl rfl ((h.1 H hlen).up (by decide)) rfl ?_
            exact ow_irt rfl rfl rfl
          · refine RT_step (pc2 := 1) rfl (fun _ _ => rfl) ?_
            refine rt_bip rfl k8_16 ?_
            refine ow_iv1 (l2 := ((180, mcl (Int32.ofNat 0) (Int32.ofNat 0) n lim a pl (km kd) nm sg (Int32.ofNat 0) qm wd td (posb vs o)) :: (181, mtl ts) :: [(182, ia nw), (187, lng nz), (200, ia li)])) rfl rfl rfl rfl hlen rfl rfl rfl ((m_isWord (k := 16) (ov_hl hlen) (ov_at rfl (ov_lt hlen (by decide))) (km_is kd t.2.2.2.1).2.2.2.2.2 (by decide)).up (by omega)) rfl ?_
            refine RT_step (pc2 := 7) rfl (fun _ _ => rfl) ?_
            refine RT_step (pc2 := 8) rfl (fun _ _ => rfl) ?_
            refine bcT_ne rfl (b01_f hd0) ?_
            refine RT_step (pc2 := 12) rfl (fun _ _ => rfl) ?_
            refine ow_iv1 (l2 := ((180, mcl (Int32.ofNat 0) (Int32.ofNat 0) n lim a pl (km kd) nm sg (Int32.ofNat 0) qm wd td (posb vs o)) :: (181, mtl ts) :: [(182, ia nw), (187, lng nz), (200, ia li)])) rfl rfl rfl rfl hlen rfl rfl rfl ((m_isName (ov_hl hlen) (ov_at rfl (ov_lt hlen (by decide))) (km_is kd t.2.2.2.1).2.2.2.2.2).up (by omega)) rfl ?_
            refine bcF_ne rfl (b01_t hnm) ?_
            refine RT_step (pc2 := 25) rfl (fun _ _ => rfl) ?_
            refine ow_gf rfl rfl rfl hlen rfl ?_
            refine rt_ico rfl ki_0 ?_
            refine RT_step (pc2 := 30) rfl (fun _ _ => rfl) ?_
            refine ow_gf rfl rfl rfl hlen rfl ?_
            refine rt_ico rfl ki_0 ?_
            refine ow_ialN rfl rfl hv (by omega) hlen rfl ?_
            refine RT_step (pc2 := 36) rfl (fun _ _ => rfl) ?_
            refine ow_gf rfl rfl rfl hlen rfl ?_
            refine ow_is1 (l2 := ((180, mcl (Int32.ofNat 0) (Int32.ofNat 0) n lim a pl (km kd) nm sg (Int32.ofNat 0) qm wd td (posb vs o)) :: (181, mtl ts) :: [(182, ia nw), (187, lng nz), (200, ia li)])) rfl rfl rfl rfl rfl ((m_find7 (bs0 := 0) (cnt := P) (ov_hl hlen) (ov_at rfl (ov_lt hlen (by decide))) (by omega) (by omega)).up (by omega)) rfl ?_
            rw [show fdI (fd nz wd 0 P 0) = Int32.ofNat j0 from by rw [g0]; rfl]
            refine rt_ico rfl ki_m1 ?_
            refine biF_ne rfl (n_m1 (by omega)) ?_
            refine RT_step (pc2 := 53) rfl (fun _ _ => rfl) ?_
            refine ow_gf rfl rfl rfl hlen rfl ?_
            refine rt_bip rfl k8_40 ?_
            refine biF_ne rfl (n_ne co (by omega) (by omega)) ?_
            refine rt_ico rfl ki_4 ?_
            refine RT_step (pc2 := 69) rfl (fun _ _ => rfl) ?_
            refine ow_gf rfl rfl rfl hlen rfl ?_
            refine ba_imul rfl ?_
            rw [nmul4]
            refine RT_step (pc2 := 74) rfl (fun _ _ => rfl) ?_
            refine RT_step (pc2 := 75) rfl (fun _ _ => rfl) ?_
            refine ow_gf rfl rfl rfl hlen rfl ?_
            refine RT_step (pc2 := 79) rfl (fun _ _ => rfl) ?_
            refine rt_ico rfl ki_5 ?_
            refine ow_iasN (l2 := ((180, mcl (Int32.ofNat 0) (Int32.ofNat 0) n lim a pl (km kd) nm sg (Int32.ofNat 0) qm wd td (posb vs o)) :: (181, mtl ts) :: [(182, ia nw), (187, lng nz), (200, ia (li.set (4 * o) (Int32.ofNat 5)))])) rfl rfl (by (try simp only [List.length_set]); omega) (by omega) hlen rfl rfl ?_
            refine RT_step (pc2 := 82) rfl (fun _ _ => rfl) ?_
            refine ow_gf rfl rfl rfl hlen rfl ?_
            refine RT_step (pc2 := 86) rfl (fun _ _ => rfl) ?_
            refine rt_ico rfl ki_1 ?_
            refine ba_iadd rfl ?_
            rw [n_add]
            refine RT_step (pc2 := 89) rfl (fun _ _ => rfl) ?_
            refine bcT_eq rfl (b01_f hd0) ?_
            refine RT_step (pc2 := 97) rfl (fun _ _ => rfl) ?_
            refine ow_gf rfl rfl rfl hlen rfl ?_
            refine rt_ico rfl ki_0 ?_
            refine RT_step (pc2 := 102) rfl (fun _ _ => rfl) ?_
            refine ow_gf rfl rfl rfl hlen rfl ?_
            refine rt_ico rfl ki_0 ?_
            refine ow_ialN rfl rfl hv (by omega) hlen rfl ?_
            refine RT_step (pc2 := 108) rfl (fun _ _ => rfl) ?_
            refine ow_gf rfl rfl rfl hlen rfl ?_
            refine ow_is1 (l2 := ((180, mcl (Int32.ofNat 0) (Int32.ofNat 0) n lim a pl (km kd) nm sg (Int32.ofNat 0) qm wd td (posb vs o)) :: (181, mtl ts) :: [(182, ia nw), (187, lng nz), (200, ia (li.set (4 * o) (Int32.ofNat 5)))])) rfl rfl rfl rfl rfl ((m_find7 (bs0 := 0) (cnt := P) (ov_hl hlen) (ov_at rfl (ov_lt hlen (by decide))) (by omega) (by omega)).up (by omega)) rfl ?_
            rw [show fdI (fd nz wd 0 P 0) = Int32.ofNat j0 from by rw [g0]; rfl]
            refine ow_iasN (l2 := ((180, mcl (Int32.ofNat 0) (Int32.ofNat 0) n lim a pl (km kd) nm sg (Int32.ofNat 0) qm wd td (posb vs o)) :: (181, mtl ts) :: [(182, ia nw), (187, lng nz), (200, ia ((li.set (4 * o) (Int32.ofNat 5)).set (4 * o + 1) (Int32.ofNat j0)))])) rfl rfl (by (try simp only [List.length_set]); omega) (by omega) hlen rfl rfl ?_
            refine RT_step (pc2 := 116) rfl (fun _ _ => rfl) ?_
            refine ow_gf rfl rfl rfl hlen rfl ?_
            refine RT_step (pc2 := 120) rfl (fun _ _ => rfl) ?_
            refine rt_ico rfl ki_2 ?_
            refine ba_iadd rfl ?_
            rw [n_add]
            refine rt_ico rfl ki_0 ?_
            refine ow_iasN (l2 := ((180, mcl (Int32.ofNat 0) (Int32.ofNat 0) n lim a pl (km kd) nm sg (Int32.ofNat 0) qm wd td (posb vs o)) :: (181, mtl ts) :: [(182, ia nw), (187, lng nz), (200, ia (((li.set (4 * o) (Int32.ofNat 5)).set (4 * o + 1) (Int32.ofNat j0)).set (4 * o + 2) (Int32.ofNat 0)))])) rfl rfl (by (try simp only [List.length_set]); omega) (by omega) hlen rfl rfl ?_
            refine RT_step (pc2 := 125) rfl (fun _ _ => rfl) ?_
            refine ow_gf rfl rfl rfl hlen rfl ?_
            refine RT_step (pc2 := 129) rfl (fun _ _ => rfl) ?_
            refine rt_ico rfl ki_3 ?_
            refine ba_iadd rfl ?_
            rw [n_add]
            refine rt_ico rfl ki_0 ?_
            refine ow_iasN (l2 := ((180, mcl (Int32.ofNat 0) (Int32.ofNat 0) n lim a pl (km kd) nm sg (Int32.ofNat 0) qm wd td (posb vs o)) :: (181, mtl ts) :: [(182, ia nw), (187, lng nz), (200, ia ((((li.set (4 * o) (Int32.ofNat 5)).set (4 * o + 1) (Int32.ofNat j0)).set (4 * o + 2) (Int32.ofNat 0)).set (4 * o + 3) (Int32.ofNat 0)))])) rfl rfl (by (try simp only [List.length_set]); omega) (by omega) hlen rfl rfl ?_
            refine RT_step (pc2 := 134) rfl (fun _ _ => rfl) ?_
            refine ow_iv0 (l2 := ((180, mcl (Int32.ofNat 0) (Int32.ofNat 0) n lim a1 pl1 (km kd1) nm1 sg1 (Int32.ofNat 0) qm1 wd1 td (posb vs o)) :: (181, mtl ts) :: [(182, ia nw), (187, lng nz), (200, ia ((((li.set (4 * o) (Int32.ofNat 5)).set (4 * o + 1) (Int32.ofNat j0)).set (4 * o + 2) (Int32.ofNat 0)).set (4 * o + 3) (Int32.ofNat 0)))])) rfl rfl rfl rfl hlen rfl rfl rfl ((m1 _ (ov_hl hlen) (ov_at rfl (ov_lt hlen (by decide))) (ov_at rfl (ov_lt hlen (by decide)))).up (by omega)) rfl ?_
            refine RT_step (pc2 := 138) rfl (fun _ _ => rfl) ?_
            refine bcT_eq rfl (b01_f hd0) ?_
            refine RT_step (pc2 := 162) rfl (fun _ _ => rfl) ?_
            refine RT_step (pc2 := 163) rfl (fun _ _ => rfl) ?_
            refine ow_iv1 (l2 := ((180, M) :: (181, mtl ts) :: [(182, ia nw), (187, lng nz), (200, ia li2)])) rfl rfl rfl rfl hlen rfl rfl rfl ((h.2 H hlen).up (by omega)) rfl ?_
            refine bcF_eq rfl (by decide) ?_
            exact hq _ rfl
      · subst cv
        have hk11 := w_k1 t1 (by decide)
        rcases b_weds3 (vs := vs) (bv := bv) (pl := pl1) (tk := tk) (td := td) (fp := fp1) (qm := qm1) hB hM hb hn hl t1 (by omega) (by omega) jv hP hDn lp ld lz hv hv1 hN hN2 bx (li := ((((li.set (4 * o) (Int32.ofNat 5)).set (4 * o + 1) (Int32.ofNat j0)).set (4 * o + 2) (Int32.ofNat 0)).set (4 * o + 3) (Int32.ofNat 0))) ln4 ho (z := (Int32.ofNat j0)) with ⟨T, M, li2, f, ln2, h⟩ | ⟨k2, tk2, td2, T, M, v1, v2, v3, v4, li2, c2, bx2, ln2, h⟩
        · refine Or.inl ⟨T, M, li2, f, ln2, fun H hlen => ?_, fun H hlen => ?_⟩
          · have hz : FR 2 71 [.ref 1, .ref 4, .int (Int32.ofNat P)] (ov H ((1, tcl n lim a kd pl w le nu tk (Int32.ofNat 0) fp) :: (2, bcl bs) :: [(3, dcl3 P Dn lw cl id gl bo), (4, lng pn), (5, ia ri), (6, ia lf), (7, ia wa), (8, ia fo), (9, lng dn), (10, ia ha), (11, ia pa), (12, ia bl), (105, bkc o bv), (106, ia u1), (107, ia u2), (108, ia u3), (109, ia u4)])) (some (.int (Int32.ofNat j0)), ov (ov H ((1, tcl n lim a kd pl w le nu tk (Int32.ofNat 0) fp) :: (2, bcl bs) :: [(3, dcl3 P Dn lw cl id gl bo), (4, lng pn), (5, ia ri), (6, ia lf), (7, ia wa), (8, ia fo), (9, lng dn), (10, ia ha), (11, ia pa), (12, ia bl), (105, bkc o bv), (106, ia u1), (107, ia u2), (108, ia u3), (109, ia u4)])) [(1, tcl n lim a kd pl w le nu tk (Int32.ofNat 0) fp)]) := by
              refine FR_st2 (l2 := ((1, tcl n lim a kd pl w le nu tk (Int32.ofNat 0) fp) :: (2, bcl bs) :: [(3, dcl3 P Dn lw cl id gl bo), (4, lng pn), (5, ia ri), (6, ia lf), (7, ia wa), (8, ia fo), (9, lng dn), (10, ia ha), (11, ia pa), (12, ia bl), (105, bkc o bv), (106, ia u1), (107, ia u2), (108, ia u3), (109, ia u4)])) rfl rfl rfl ?_
              refine RT_step (pc2 := 1) rfl (fun _ _ => rfl) ?_
              refine ow_gf rfl rfl rfl hlen rfl ?_
              refine RT_step (pc2 := 7) rfl (fun _ _ => rfl) ?_
              refine rt_acE rfl (by omega) (by omega) ?_
              refine RT_if c ?_
              refine RT_step (pc2 := 19) rfl (fun _ _ => rfl) ?_
              refine RT_step (pc2 := 20) rfl (fun _ _ => rfl) ?_
              refine RT_step (pc2 := 21) rfl (fun _ _ => rfl) ?_
              refine ow_gf rfl rfl rfl hlen rfl ?_
              refine ow_is1 rfl rfl rfl rfl rfl ((x_find4 (ov_hl hlen) (ov_at rfl (ov_lt hlen (by decide))) (by omega) (by omega)).up (by decide)) rfl ?_
              rw [show fdI (fd pn le 0 P 0) = Int32.ofNat j0 from by rw [e0]; rfl]
              refine RT_step (pc2 := 28) rfl (fun _ _ => rfl) ?_
              refine RT_step (pc2 := 29) rfl (fun _ _ => rfl) ?_
              refine rt_ico rfl ki_m1 ?_
              refine biF_ne rfl (n_m1 (by omega)) ?_
              refine RT_step (pc2 := 40) rfl (fun _ _ => rfl) ?_
              exact ow_irt rfl rfl rfl
            have hy : FR 3 73 [.ref 3, .ref 1] (ov H ((1, tcl n lim a kd pl w le nu tk (Int32.ofNat 0) fp) :: (2, bcl bs) :: [(3, dcl3 P Dn lw cl id gl bo), (4, lng pn), (5, ia ri), (6, ia lf), (7, ia wa), (8, ia fo), (9, lng dn), (10, ia ha), (11, ia pa), (12, ia bl), (105, bkc o bv), (106, ia u1), (107, ia u2), (108, ia u3), (109, ia u4)])) (some (.int (Int32.ofNat j0)), ov (ov H ((1, tcl n lim a kd pl w le nu tk (Int32.ofNat 0) fp) :: (2, bcl bs) :: [(3, dcl3 P Dn lw cl id gl bo), (4, lng pn), (5, ia ri), (6, ia lf), (7, ia wa), (8, ia fo), (9, lng dn), (10, ia ha), (11, ia pa), (12, ia bl), (105, bkc o bv), (106, ia u1), (107, ia u2), (108, ia u3), (109, ia u4)])) [(1, tcl n lim a kd pl w le nu tk (Int32.ofNat 0) fp)]) := by
              refine FR_st2 (l2 := ((1, tcl n lim a kd pl w le nu tk (Int32.ofNat 0) fp) :: (2, bcl bs) :: [(3, dcl3 P Dn lw cl id gl bo), (4, lng pn), (5, ia ri), (6, ia lf), (7, ia wa), (8, ia fo), (9, lng dn), (10, ia ha), (11, ia pa), (12, ia bl), (105, bkc o bv), (106, ia u1), (107, ia u2), (108, ia u3), (109, ia u4)])) rfl rfl rfl ?_
              refine RT_step (pc2 := 1) rfl (fun _ _ => rfl) ?_
              refine RT_step (pc2 := 2) rfl (fun _ _ => rfl) ?_
              refine ow_gf rfl rfl rfl hlen rfl ?_
              refine RT_step (pc2 := 6) rfl (fun _ _ => rfl) ?_
              refine ow_gf rfl rfl rfl hlen rfl ?_
              refine ow_is1 (l2 := ((1, tcl n lim a kd pl w le nu tk (Int32.ofNat 0) fp) :: (2, bcl bs) :: [(3, dcl3 P Dn lw cl id gl bo), (4, lng pn), (5, ia ri), (6, ia lf), (7, ia wa), (8, ia fo), (9, lng dn), (10, ia ha), (11, ia pa), (12, ia bl), (105, bkc o bv), (106, ia u1), (107, ia u2), (108, ia u3), (109, ia u4)])) rfl rfl rfl rfl rfl (hz.up (by decide)) rfl ?_
              exact ow_irt rfl rfl rfl
            refine FR_st2 (l2 := ((1, T) :: (2, bcl bs) :: [(3, dcl3 P Dn lw cl id gl bo), (4, lng pn), (5, ia ri), (6, ia lf), (7, ia wa), (8, ia fo), (9, lng dn), (10, ia ha), (11, ia pa), (12, ia bl), (105, bkc o bv), (106, ia u1), (107, ia u2), (108, ia u3), (109, ia u4)])) rfl rfl rfl ?_
            refine RT_step (pc2 := 1) rfl (fun _ _ => rfl) ?_
            refine RT_step (pc2 := 2) rfl (fun _ _ => rfl) ?_
            refine ow_iv1 (l2 := ((1, tcl n lim a kd pl w le nu tk (Int32.ofNat 0) fp) :: (2, bcl bs) :: [(3, dcl3 P Dn lw cl id gl bo), (4, lng pn), (5, ia ri), (6, ia lf), (7, ia wa), (8, ia fo), (9, lng dn), (10, ia ha), (11, ia pa), (12, ia bl), (105, bkc o bv), (106, ia u1), (107, ia u2), (108, ia u3), (109, ia u4)])) rfl rfl rfl rfl hlen rfl rfl rfl (hy.up (by decide)) rfl ?_
            refine RT_step (pc2 := 6) rfl (fun _ _ => rfl) ?_
            refine RT_step (pc2 := 7) rfl (fun _ _ => rfl) ?_
            refine rt_ico rfl ki_m1 ?_
            refine biF_ne rfl (n_m1 (by omega)) ?_
            refine RT_step (pc2 := 14) rfl (fun _ _ => rfl) ?_
            refine ow_gf rfl rfl rfl hlen rfl ?_
            refine rt_bip rfl k8_40 ?_
            refine biT_lt rfl (n_lt (by omega) (by omega)) ?_
            refine RT_step (pc2 := 29) rfl (fun _ _ => rfl) ?_
            refine ow_iv0 (l2 := ((1, tcl n lim a1 kd1 pl1 12 le1 nu1 tk (Int32.ofNat 0) fp1) :: (2, bcl bs) :: [(3, dcl3 P Dn lw cl id gl bo), (4, lng pn), (5, ia ri), (6, ia lf), (7, ia wa), (8, ia fo), (9, lng dn), (10, ia ha), (11, ia pa), (12, ia bl), (105, bkc o bv), (106, ia u1), (107, ia u2), (108, ia u3), (109, ia u4)])) rfl rfl rfl rfl hlen rfl rfl rfl ((x1 _ (ov_hl hlen) (ov_at rfl (ov_lt hlen (by decide))) (ov_at rfl (ov_lt hlen (by decide)))).up (by decide)) rfl ?_
            refine RT_step (pc2 := 33) rfl (fun _ _ => rfl) ?_
            refine ow_gf rfl rfl rfl hlen rfl ?_
            refine RT_step (pc2 := 38) rfl (fun _ _ => rfl) ?_
            refine RT_step (pc2 := 41) rfl (fun _ _ => rfl) ?_
            refine RT_step (pc2 := 43) rfl (fun _ _ => rfl) ?_
            refine rt_ord rfl (by decide) rfl ?_
            refine rt_isw rfl (v := 9) (by decide +kernel) ?_
            refine RT_step (pc2 := 88) rfl (fun _ _ => rfl) ?_
            refine RT_step (pc2 := 89) rfl (fun _ _ => rfl) ?_
            refine RT_step (pc2 := 90) rfl (fun _ _ => rfl) ?_
            refine RT_step (pc2 := 91) rfl (fun _ _ => rfl) ?_
            refine RT_step (pc2 := 92) rfl (fun _ _ => rfl) ?_
            refine ow_iv1 (l2 := ((1, T) :: (2, bcl bs) :: [(3, dcl3 P Dn lw cl id gl bo), (4, lng pn), (5, ia ri), (6, ia lf), (7, ia wa), (8, ia fo), (9, lng dn), (10, ia ha), (11, ia pa), (12, ia bl), (105, bkc o bv), (106, ia u1), (107, ia u2), (108, ia u3), (109, ia u4)])) rfl rfl rfl rfl hlen rfl rfl rfl ((h.1 H hlen).up (by decide)) rfl ?_
            exact ow_irt rfl rfl rfl
          · refine FR_st2 (l2 := ((180, M) :: (181, mtl ts) :: [(182, ia nw), (187, lng nz), (200, ia li2)])) rfl rfl rfl ?_
            refine RT_step (pc2 := 1) rfl (fun _ _ => rfl) ?_
            refine rt_bip rfl k8_16 ?_
            refine ow_iv1 (l2 := ((180, mcl (Int32.ofNat 0) (Int32.ofNat 0) n lim a pl (km kd) nm sg (Int32.ofNat 0) qm wd td (posb vs o)) :: (181, mtl ts) :: [(182, ia nw), (187, lng nz), (200, ia li)])) rfl rfl rfl rfl hlen rfl rfl rfl ((m_isWord (k := 16) (ov_hl hlen) (ov_at rfl (ov_lt hlen (by decide))) (km_is kd t.2.2.2.1).2.2.2.2.2 (by decide)).up (by omega)) rfl ?_
            refine RT_step (pc2 := 7) rfl (fun _ _ => rfl) ?_
            refine RT_step (pc2 := 8) rfl (fun _ _ => rfl) ?_
            refine bcT_ne rfl (b01_f hd0) ?_
            refine RT_step (pc2 := 12) rfl (fun _ _ => rfl) ?_
            refine ow_iv1 (l2 := ((180, mcl (Int32.ofNat 0) (Int32.ofNat 0) n lim a pl (km kd) nm sg (Int32.ofNat 0) qm wd td (posb vs o)) :: (181, mtl ts) :: [(182, ia nw), (187, lng nz), (200, ia li)])) rfl rfl rfl rfl hlen rfl rfl rfl ((m_isName (ov_hl hlen) (ov_at rfl (ov_lt hlen (by decide))) (km_is kd t.2.2.2.1).2.2.2.2.2).up (by omega)) rfl ?_
            refine bcF_ne rfl (b01_t hnm) ?_
            refine RT_step (pc2 := 25) rfl (fun _ _ => rfl) ?_
            refine ow_gf rfl rfl rfl hlen rfl ?_
            refine rt_ico rfl ki_0 ?_
            refine RT_step (pc2 := 30) rfl (fun _ _ => rfl) ?_
            refine ow_gf rfl rfl rfl hlen rfl ?_
            refine rt_ico rfl ki_0 ?_
            refine ow_ialN rfl rfl hv (by omega) hlen rfl ?_
            refine RT_step (pc2 := 36) rfl (fun _ _ => rfl) ?_
            refine ow_gf rfl rfl rfl hlen rfl ?_
            refine ow_is1 (l2 := ((180, mcl (Int32.ofNat 0) (Int32.ofNat 0) n lim a pl (km kd) nm sg (Int32.ofNat 0) qm wd td (posb vs o)) :: (181, mtl ts) :: [(182, ia nw), (187, lng nz), (200, ia li)])) rfl rfl rfl rfl rfl ((m_find7 (bs0 := 0) (cnt := P) (ov_hl hlen) (ov_at rfl (ov_lt hlen (by decide))) (by omega) (by omega)).up (by omega)) rfl ?_
            rw [show fdI (fd nz wd 0 P 0) = Int32.ofNat j0 from by rw [g0]; rfl]
            refine rt_ico rfl ki_m1 ?_
            refine biF_ne rfl (n_m1 (by omega)) ?_
            refine RT_step (pc2 := 53) rfl (fun _ _ => rfl) ?_
            refine ow_gf rfl rfl rfl hlen rfl ?_
            refine rt_bip rfl k8_40 ?_
            refine biF_ne rfl (n_ne co (by omega) (by omega)) ?_
            refine rt_ico rfl ki_4 ?_
            refine RT_step (pc2 := 69) rfl (fun _ _ => rfl) ?_
            refine ow_gf rfl rfl rfl hlen rfl ?_
            refine ba_imul rfl ?_
            rw [nmul4]
            refine RT_step (pc2 := 74) rfl (fun _ _ => rfl) ?_
            refine RT_step (pc2 := 75) rfl (fun _ _ => rfl) ?_
            refine ow_gf rfl rfl rfl hlen rfl ?_
            refine RT_step (pc2 := 79) rfl (fun _ _ => rfl) ?_
            refine rt_ico rfl ki_5 ?_
            refine ow_iasN (l2 := ((180, mcl (Int32.ofNat 0) (Int32.ofNat 0) n lim a pl (km kd) nm sg (Int32.ofNat 0) qm wd td (posb vs o)) :: (181, mtl ts) :: [(182, ia nw), (187, lng nz), (200, ia (li.set (4 * o) (Int32.ofNat 5)))])) rfl rfl (by (try simp only [List.length_set]); omega) (by omega) hlen rfl rfl ?_
            refine RT_step (pc2 := 82) rfl (fun _ _ => rfl) ?_
            refine ow_gf rfl rfl rfl hlen rfl ?_
            refine RT_step (pc2 := 86) rfl (fun _ _ => rfl) ?_
            refine rt_ico rfl ki_1 ?_
            refine ba_iadd rfl ?_
            rw [n_add]
            refine RT_step (pc2 := 89) rfl (fun _ _ => rfl) ?_
            refine bcT_eq rfl (b01_f hd0) ?_
            refine RT_step (pc2 := 97) rfl (fun _ _ => rfl) ?_
            refine ow_gf rfl rfl rfl hlen rfl ?_
            refine rt_ico rfl ki_0 ?_
            refine RT_step (pc2 := 102) rfl (fun _ _ => rfl) ?_
            refine ow_gf rfl rfl rfl hlen rfl ?_
            refine rt_ico rfl ki_0 ?_
            refine ow_ialN rfl rfl hv (by omega) hlen rfl ?_
            refine RT_step (pc2 := 108) rfl (fun _ _ => rfl) ?_
            refine ow_gf rfl rfl rfl hlen rfl ?_
            refine ow_is1 (l2 := ((180, mcl (Int32.ofNat 0) (Int32.ofNat 0) n lim a pl (km kd) nm sg (Int32.ofNat 0) qm wd td (posb vs o)) :: (181, mtl ts) :: [(182, ia nw), (187, lng nz), (200, ia (li.set (4 * o) (Int32.ofNat 5)))])) rfl rfl rfl rfl rfl ((m_find7 (bs0 := 0) (cnt := P) (ov_hl hlen) (ov_at rfl (ov_lt hlen (by decide))) (by omega) (by omega)).up (by omega)) rfl ?_
            rw [show fdI (fd nz wd 0 P 0) = Int32.ofNat j0 from by rw [g0]; rfl]
            refine ow_iasN (l2 := ((180, mcl (Int32.ofNat 0) (Int32.ofNat 0) n lim a pl (km kd) nm sg (Int32.ofNat 0) qm wd td (posb vs o)) :: (181, mtl ts) :: [(182, ia nw), (187, lng nz), (200, ia ((li.set (4 * o) (Int32.ofNat 5)).set (4 * o + 1) (Int32.ofNat j0)))])) rfl rfl (by (try simp only [List.length_set]); omega) (by omega) hlen rfl rfl ?_
            refine RT_step (pc2 := 116) rfl (fun _ _ => rfl) ?_
            refine ow_gf rfl rfl rfl hlen rfl ?_
            refine RT_step (pc2 := 120) rfl (fun _ _ => rfl) ?_
            refine rt_ico rfl ki_2 ?_
            refine ba_iadd rfl ?_
            rw [n_add]
            refine rt_ico rfl ki_0 ?_
            refine ow_iasN (l2 := ((180, mcl (Int32.ofNat 0) (Int32.ofNat 0) n lim a pl (km kd) nm sg (Int32.ofNat 0) qm wd td (posb vs o)) :: (181, mtl ts) :: [(182, ia nw), (187, lng nz), (200, ia (((li.set (4 * o) (Int32.ofNat 5)).set (4 * o + 1) (Int32.ofNat j0)).set (4 * o + 2) (Int32.ofNat 0)))])) rfl rfl (by (try simp only [List.length_set]); omega) (by omega) hlen rfl rfl ?_
            refine RT_step (pc2 := 125) rfl (fun _ _ => rfl) ?_
            refine ow_gf rfl rfl rfl hlen rfl ?_
            refine RT_step (pc2 := 129) rfl (fun _ _ => rfl) ?_
            refine rt_ico rfl ki_3 ?_
            refine ba_iadd rfl ?_
            rw [n_add]
            refine rt_ico rfl ki_0 ?_
            refine ow_iasN (l2 := ((180, mcl (Int32.ofNat 0) (Int32.ofNat 0) n lim a pl (km kd) nm sg (Int32.ofNat 0) qm wd td (posb vs o)) :: (181, mtl ts) :: [(182, ia nw), (187, lng nz), (200, ia ((((li.set (4 * o) (Int32.ofNat 5)).set (4 * o + 1) (Int32.ofNat j0)).set (4 * o + 2) (Int32.ofNat 0)).set (4 * o + 3) (Int32.ofNat 0)))])) rfl rfl (by (try simp only [List.length_set]); omega) (by omega) hlen rfl rfl ?_
            refine RT_step (pc2 := 134) rfl (fun _ _ => rfl) ?_
            refine ow_iv0 (l2 := ((180, mcl (Int32.ofNat 0) (Int32.ofNat 0) n lim a1 pl1 (km kd1) nm1 sg1 (Int32.ofNat 0) qm1 wd1 td (posb vs o)) :: (181, mtl ts) :: [(182, ia nw), (187, lng nz), (200, ia ((((li.set (4 * o) (Int32.ofNat 5)).set (4 * o + 1) (Int32.ofNat j0)).set (4 * o + 2) (Int32.ofNat 0)).set (4 * o + 3) (Int32.ofNat 0)))])) rfl rfl rfl rfl hlen rfl rfl rfl ((m1 _ (ov_hl hlen) (ov_at rfl (ov_lt hlen (by decide))) (ov_at rfl (ov_lt hlen (by decide)))).up (by omega)) rfl ?_
            refine RT_step (pc2 := 138) rfl (fun _ _ => rfl) ?_
            refine bcT_eq rfl (b01_f hd0) ?_
            refine RT_step (pc2 := 162) rfl (fun _ _ => rfl) ?_
            refine RT_step (pc2 := 163) rfl (fun _ _ => rfl) ?_
            refine ow_iv1 (l2 := ((180, M) :: (181, mtl ts) :: [(182, ia nw), (187, lng nz), (200, ia li2)])) rfl rfl rfl rfl hlen rfl rfl rfl ((h.2 H hlen).up (by omega)) rfl ?_
            refine bcT_eq rfl rfl ?_
            refine rt_ico rfl ki_0 ?_
            exact ow_irt rfl rfl rfl
        · refine Or.inr ⟨ho, k2, tk2, td2, T, M, v1, v2, v3, v4, li2, c2, bx2, ln2, fun H hlen => ?_, fun H dd q hlen hq => ?_⟩
          · have hz : FR 2 71 [.ref 1, .ref 4, .int (Int32.ofNat P)] (ov H ((1, tcl n lim a kd pl w le nu tk (Int32.ofNat 0) fp) :: (2, bcl bs) :: [(3, dcl3 P Dn lw cl id gl bo), (4, lng pn), (5, ia ri), (6, ia lf), (7, ia wa), (8, ia fo), (9, lng dn), (10, ia ha), (11, ia pa), (12, ia bl), (105, bkc o bv), (106, ia u1), (107, ia u2), (108, ia u3), (109, ia u4)])) (some (.int (Int32.ofNat j0)), ov (ov H ((1, tcl n lim a kd pl w le nu tk (Int32.ofNat 0) fp) :: (2, bcl bs) :: [(3, dcl3 P Dn lw cl id gl bo), (4, lng pn), (5, ia ri), (6, ia lf), (7, ia wa), (8, ia fo), (9, lng dn), (10, ia ha), (11, ia pa), (12, ia bl), (105, bkc o bv), (106, ia u1), (107, ia u2), (108, ia u3), (109, ia u4)])) [(1, tcl n lim a kd pl w le nu tk (Int32.ofNat 0) fp)]) := by
              refine FR_st2 (l2 := ((1, tcl n lim a kd pl w le nu tk (Int32.ofNat 0) fp) :: (2, bcl bs) :: [(3, dcl3 P Dn lw cl id gl bo), (4, lng pn), (5, ia ri), (6, ia lf), (7, ia wa), (8, ia fo), (9, lng dn), (10, ia ha), (11, ia pa), (12, ia bl), (105, bkc o bv), (106, ia u1), (107, ia u2), (108, ia u3), (109, ia u4)])) rfl rfl rfl ?_
              refine RT_step (pc2 := 1) rfl (fun _ _ => rfl) ?_
              refine ow_gf rfl rfl rfl hlen rfl ?_
              refine RT_step (pc2 := 7) rfl (fun _ _ => rfl) ?_
              refine rt_acE rfl (by omega) (by omega) ?_
              refine RT_if c ?_
              refine RT_step (pc2 := 19) rfl (fun _ _ => rfl) ?_
              refine RT_step (pc2 := 20) rfl (fun _ _ => rfl) ?_
              refine RT_step (pc2 := 21) rfl (fun _ _ => rfl) ?_
              refine ow_gf rfl rfl rfl hlen rfl ?_
              refine ow_is1 rfl rfl rfl rfl rfl ((x_find4 (ov_hl hlen) (ov_at rfl (ov_lt hlen (by decide))) (by omega) (by omega)).up (by decide)) rfl ?_
              rw [show fdI (fd pn le 0 P 0) = Int32.ofNat j0 from by rw [e0]; rfl]
              refine RT_step (pc2 := 28) rfl (fun _ _ => rfl) ?_
              refine RT_step (pc2 := 29) rfl (fun _ _ => rfl) ?_
              refine rt_ico rfl ki_m1 ?_
              refine biF_ne rfl (n_m1 (by omega)) ?_
              refine RT_step (pc2 := 40) rfl (fun _ _ => rfl) ?_
              exact ow_irt rfl rfl rfl
            have hy : FR 3 73 [.ref 3, .ref 1] (ov H ((1, tcl n lim a kd pl w le nu tk (Int32.ofNat 0) fp) :: (2, bcl bs) :: [(3, dcl3 P Dn lw cl id gl bo), (4, lng pn), (5, ia ri), (6, ia lf), (7, ia wa), (8, ia fo), (9, lng dn), (10, ia ha), (11, ia pa), (12, ia bl), (105, bkc o bv), (106, ia u1), (107, ia u2), (108, ia u3), (109, ia u4)])) (some (.int (Int32.ofNat j0)), ov (ov H ((1, tcl n lim a kd pl w le nu tk (Int32.ofNat 0) fp) :: (2, bcl bs) :: [(3, dcl3 P Dn lw cl id gl bo), (4, lng pn), (5, ia ri), (6, ia lf), (7, ia wa), (8, ia fo), (9, lng dn), (10, ia ha), (11, ia pa), (12, ia bl), (105, bkc o bv), (106, ia u1), (107, ia u2), (108, ia u3), (109, ia u4)])) [(1, tcl n lim a kd pl w le nu tk (Int32.ofNat 0) fp)]) := by
              refine FR_st2 (l2 := ((1, tcl n lim a kd pl w le nu tk (Int32.ofNat 0) fp) :: (2, bcl bs) :: [(3, dcl3 P Dn lw cl id gl bo), (4, lng pn), (5, ia ri), (6, ia lf), (7, ia wa), (8, ia fo), (9, lng dn), (10, ia ha), (11, ia pa), (12, ia bl), (105, bkc o bv), (106, ia u1), (107, ia u2), (108, ia u3), (109, ia u4)])) rfl rfl rfl ?_
              refine RT_step (pc2 := 1) rfl (fun _ _ => rfl) ?_
              refine RT_step (pc2 := 2) rfl (fun _ _ => rfl) ?_
              refine ow_gf rfl rfl rfl hlen rfl ?_
              refine RT_step (pc2 := 6) rfl (fun _ _ => rfl) ?_
              refine ow_gf rfl rfl rfl hlen rfl ?_
              refine ow_is1 (l2 := ((1, tcl n lim a kd pl w le nu tk (Int32.ofNat 0) fp) :: (2, bcl bs) :: [(3, dcl3 P Dn lw cl id gl bo), (4, lng pn), (5, ia ri), (6, ia lf), (7, ia wa), (8, ia fo), (9, lng dn), (10, ia ha), (11, ia pa), (12, ia bl), (105, bkc o bv), (106, ia u1), (107, ia u2), (108, ia u3), (109, ia u4)])) rfl rfl rfl rfl rfl (hz.up (by decide)) rfl ?_
              exact ow_irt rfl rfl rfl
            refine FR_st2 (l2 := ((1, T) :: (2, bcl bs) :: [(3, dcl3 P Dn lw cl id gl bo), (4, lng pn), (5, ia ri), (6, ia lf), (7, ia wa), (8, ia fo), (9, lng dn), (10, ia ha), (11, ia pa), (12, ia bl), (105, bkc (o + 1) bv), (106, ia v1), (107, ia v2), (108, ia v3), (109, ia v4)])) rfl rfl rfl ?_
            refine RT_step (pc2 := 1) rfl (fun _ _ => rfl) ?_
            refine RT_step (pc2 := 2) rfl (fun _ _ => rfl) ?_
            refine ow_iv1 (l2 := ((1, tcl n lim a kd pl w le nu tk (Int32.ofNat 0) fp) :: (2, bcl bs) :: [(3, dcl3 P Dn lw cl id gl bo), (4, lng pn), (5, ia ri), (6, ia lf), (7, ia wa), (8, ia fo), (9, lng dn), (10, ia ha), (11, ia pa), (12, ia bl), (105, bkc o bv), (106, ia u1), (107, ia u2), (108, ia u3), (109, ia u4)])) rfl rfl rfl rfl hlen rfl rfl rfl (hy.up (by decide)) rfl ?_
            refine RT_step (pc2 := 6) rfl (fun _ _ => rfl) ?_
            refine RT_step (pc2 := 7) rfl (fun _ _ => rfl) ?_
            refine rt_ico rfl ki_m1 ?_
            refine biF_ne rfl (n_m1 (by omega)) ?_
            refine RT_step (pc2 := 14) rfl (fun _ _ => rfl) ?_
            refine ow_gf rfl rfl rfl hlen rfl ?_
            refine rt_bip rfl k8_40 ?_
            refine biT_lt rfl (n_lt (by omega) (by omega)) ?_
            refine RT_step (pc2 := 29) rfl (fun _ _ => rfl) ?_
            refine ow_iv0 (l2 := ((1, tcl n lim a1 kd1 pl1 12 le1 nu1 tk (Int32.ofNat 0) fp1) :: (2, bcl bs) :: [(3, dcl3 P Dn lw cl id gl bo), (4, lng pn), (5, ia ri), (6, ia lf), (7, ia wa), (8, ia fo), (9, lng dn), (10, ia ha), (11, ia pa), (12, ia bl), (105, bkc o bv), (106, ia u1), (107, ia u2), (108, ia u3), (109, ia u4)])) rfl rfl rfl rfl hlen rfl rfl rfl ((x1 _ (ov_hl hlen) (ov_at rfl (ov_lt hlen (by decide))) (ov_at rfl (ov_lt hlen (by decide)))).up (by decide)) rfl ?_
            refine RT_step (pc2 := 33) rfl (fun _ _ => rfl) ?_
            refine ow_gf rfl rfl rfl hlen rfl ?_
            refine RT_step (pc2 := 38) rfl (fun _ _ => rfl) ?_
            refine RT_step (pc2 := 41) rfl (fun _ _ => rfl) ?_
            refine RT_step (pc2 := 43) rfl (fun _ _ => rfl) ?_
            refine rt_ord rfl (by decide) rfl ?_
            refine rt_isw rfl (v := 9) (by decide +kernel) ?_
            refine RT_step (pc2 := 88) rfl (fun _ _ => rfl) ?_
            refine RT_step (pc2 := 89) rfl (fun _ _ => rfl) ?_
            refine RT_step (pc2 := 90) rfl (fun _ _ => rfl) ?_
            refine RT_step (pc2 := 91) rfl (fun _ _ => rfl) ?_
            refine RT_step (pc2 := 92) rfl (fun _ _ => rfl) ?_
            refine ow_iv1 (l2 := ((1, T) :: (2, bcl bs) :: [(3, dcl3 P Dn lw cl id gl bo), (4, lng pn), (5, ia ri), (6, ia lf), (7, ia wa), (8, ia fo), (9, lng dn), (10, ia ha), (11, ia pa), (12, ia bl), (105, bkc (o + 1) bv), (106, ia v1), (107, ia v2), (108, ia v3), (109, ia v4)])) rfl rfl rfl rfl hlen rfl rfl rfl ((h.1 H hlen).up (by decide)) rfl ?_
            exact ow_irt rfl rfl rfl
          · refine RT_step (pc2 := 1) rfl (fun _ _ => rfl) ?_
            refine rt_bip rfl k8_16 ?_
            refine ow_iv1 (l2 := ((180, mcl (Int32.ofNat 0) (Int32.ofNat 0) n lim a pl (km kd) nm sg (Int32.ofNat 0) qm wd td (posb vs o)) :: (181, mtl ts) :: [(182, ia nw), (187, lng nz), (200, ia li)])) rfl rfl rfl rfl hlen rfl rfl rfl ((m_isWord (k := 16) (ov_hl hlen) (ov_at rfl (ov_lt hlen (by decide))) (km_is kd t.2.2.2.1).2.2.2.2.2 (by decide)).up (by omega)) rfl ?_
            refine RT_step (pc2 := 7) rfl (fun _ _ => rfl) ?_
            refine RT_step (pc2 := 8) rfl (fun _ _ => rfl) ?_
            refine bcT_ne rfl (b01_f hd0) ?_
            refine RT_step (pc2 := 12) rfl (fun _ _ => rfl) ?_
            refine ow_iv1 (l2 := ((180, mcl (Int32.ofNat 0) (Int32.ofNat 0) n lim a pl (km kd) nm sg (Int32.ofNat 0) qm wd td (posb vs o)) :: (181, mtl ts) :: [(182, ia nw), (187, lng nz), (200, ia li)])) rfl rfl rfl rfl hlen rfl rfl rfl ((m_isName (ov_hl hlen) (ov_at rfl (ov_lt hlen (by decide))) (km_is kd t.2.2.2.1).2.2.2.2.2).up (by omega)) rfl ?_
            refine bcF_ne rfl (b01_t hnm) ?_
            refine RT_step (pc2 := 25) rfl (fun _ _ => rfl) ?_
            refine ow_gf rfl rfl rfl hlen rfl ?_
            refine rt_ico rfl ki_0 ?_
            refine RT_step (pc2 := 30) rfl (fun _ _ => rfl) ?_
            refine ow_gf rfl rfl rfl hlen rfl ?_
            refine rt_ico rfl ki_0 ?_
            refine ow_ialN rfl rfl hv (by omega) hlen rfl ?_
            refine RT_step (pc2 := 36) rfl (fun _ _ => rfl) ?_
            refine ow_gf rfl rfl rfl hlen rfl ?_
            refine ow_is1 (l2 := ((180, mcl (Int32.ofNat 0) (Int32.ofNat 0) n lim a pl (km kd) nm sg (Int32.ofNat 0) qm wd td (posb vs o)) :: (181, mtl ts) :: [(182, ia nw), (187, lng nz), (200, ia li)])) rfl rfl rfl rfl rfl ((m_find7 (bs0 := 0) (cnt := P) (ov_hl hlen) (ov_at rfl (ov_lt hlen (by decide))) (by omega) (by omega)).up (by omega)) rfl ?_
            rw [show fdI (fd nz wd 0 P 0) = Int32.ofNat j0 from by rw [g0]; rfl]
            refine rt_ico rfl ki_m1 ?_
            refine biF_ne rfl (n_m1 (by omega)) ?_
            refine RT_step (pc2 := 53) rfl (fun _ _ => rfl) ?_
            refine ow_gf rfl rfl rfl hlen rfl ?_
            refine rt_bip rfl k8_40 ?_
            refine biF_ne rfl (n_ne co (by omega) (by omega)) ?_
            refine rt_ico rfl ki_4 ?_
            refine RT_step (pc2 := 69) rfl (fun _ _ => rfl) ?_
            refine ow_gf rfl rfl rfl hlen rfl ?_
            refine ba_imul rfl ?_
            rw [nmul4]
            refine RT_step (pc2 := 74) rfl (fun _ _ => rfl) ?_
            refine RT_step (pc2 := 75) rfl (fun _ _ => rfl) ?_
            refine ow_gf rfl rfl rfl hlen rfl ?_
            refine RT_step (pc2 := 79) rfl (fun _ _ => rfl) ?_
            refine rt_ico rfl ki_5 ?_
            refine ow_iasN (l2 := ((180, mcl (Int32.ofNat 0) (Int32.ofNat 0) n lim a pl (km kd) nm sg (Int32.ofNat 0) qm wd td (posb vs o)) :: (181, mtl ts) :: [(182, ia nw), (187, lng nz), (200, ia (li.set (4 * o) (Int32.ofNat 5)))])) rfl rfl (by (try simp only [List.length_set]); omega) (by omega) hlen rfl rfl ?_
            refine RT_step (pc2 := 82) rfl (fun _ _ => rfl) ?_
            refine ow_gf rfl rfl rfl hlen rfl ?_
            refine RT_step (pc2 := 86) rfl (fun _ _ => rfl) ?_
            refine rt_ico rfl ki_1 ?_
            refine ba_iadd rfl ?_
            rw [n_add]
            refine RT_step (pc2 := 89) rfl (fun _ _ => rfl) ?_
            refine bcT_eq rfl (b01_f hd0) ?_
            refine RT_step (pc2 := 97) rfl (fun _ _ => rfl) ?_
            refine ow_gf rfl rfl rfl hlen rfl ?_
            refine rt_ico rfl ki_0 ?_
            refine RT_step (pc2 := 102) rfl (fun _ _ => rfl) ?_
            refine ow_gf rfl rfl rfl hlen rfl ?_
            refine rt_ico rfl ki_0 ?_
            refine ow_ialN rfl rfl hv (by omega) hlen rfl ?_
            refine RT_step (pc2 := 108) rfl (fun _ _ => rfl) ?_
            refine ow_gf rfl rfl rfl hlen rfl ?_
            refine ow_is1 (l2 := ((180, mcl (Int32.ofNat 0) (Int32.ofNat 0) n lim a pl (km kd) nm sg (Int32.ofNat 0) qm wd td (posb vs o)) :: (181, mtl ts) :: [(182, ia nw), (187, lng nz), (200, ia (li.set (4 * o) (Int32.ofNat 5)))])) rfl rfl rfl rfl rfl ((m_find7 (bs0 := 0) (cnt := P) (ov_hl hlen) (ov_at rfl (ov_lt hlen (by decide))) (by omega) (by omega)).up (by omega)) rfl ?_
            rw [show fdI (fd nz wd 0 P 0) = Int32.ofNat j0 from by rw [g0]; rfl]
            refine ow_iasN (l2 := ((180, mcl (Int32.ofNat 0) (Int32.ofNat 0) n lim a pl (km kd) nm sg (Int32.ofNat 0) qm wd td (posb vs o)) :: (181, mtl ts) :: [(182, ia nw), (187, lng nz), (200, ia ((li.set (4 * o) (Int32.ofNat 5)).set (4 * o + 1) (Int32.ofNat j0)))])) rfl rfl (by (try simp only [List.length_set]); omega) (by omega) hlen rfl rfl ?_
            refine RT_step (pc2 := 116) rfl (fun _ _ => rfl) ?_
            refine ow_gf rfl rfl rfl hlen rfl ?_
            refine RT_step (pc2 := 120) rfl (fun _ _ => rfl) ?_
            refine rt_ico rfl ki_2 ?_
            refine ba_iadd rfl ?_
            rw [n_add]
            refine rt_ico rfl ki_0 ?_
            refine ow_iasN (l2 := ((180, mcl (Int32.ofNat 0) (Int32.ofNat 0) n lim a pl (km kd) nm sg (Int32.ofNat 0) qm wd td (posb vs o)) :: (181, mtl ts) :: [(182, ia nw), (187, lng nz), (200, ia (((li.set (4 * o) (Int32.ofNat 5)).set (4 * o + 1) (Int32.ofNat j0)).set (4 * o + 2) (Int32.ofNat 0)))])) rfl rfl (by (try simp only [List.length_set]); omega) (by omega) hlen rfl rfl ?_
            refine RT_step (pc2 := 125) rfl (fun _ _ => rfl) ?_
            refine ow_gf rfl rfl rfl hlen rfl ?_
            refine RT_step (pc2 := 129) rfl (fun _ _ => rfl) ?_
            refine rt_ico rfl ki_3 ?_
            refine ba_iadd rfl ?_
            rw [n_add]
            refine rt_ico rfl ki_0 ?_
            refine ow_iasN (l2 := ((180, mcl (Int32.ofNat 0) (Int32.ofNat 0) n lim a pl (km kd) nm sg (Int32.ofNat 0) qm wd td (posb vs o)) :: (181, mtl ts) :: [(182, ia nw), (187, lng nz), (200, ia ((((li.set (4 * o) (Int32.ofNat 5)).set (4 * o + 1) (Int32.ofNat j0)).set (4 * o + 2) (Int32.ofNat 0)).set (4 * o + 3) (Int32.ofNat 0)))])) rfl rfl (by (try simp only [List.length_set]); omega) (by omega) hlen rfl rfl ?_
            refine RT_step (pc2 := 134) rfl (fun _ _ => rfl) ?_
            refine ow_iv0 (l2 := ((180, mcl (Int32.ofNat 0) (Int32.ofNat 0) n lim a1 pl1 (km kd1) nm1 sg1 (Int32.ofNat 0) qm1 wd1 td (posb vs o)) :: (181, mtl ts) :: [(182, ia nw), (187, lng nz), (200, ia ((((li.set (4 * o) (Int32.ofNat 5)).set (4 * o + 1) (Int32.ofNat j0)).set (4 * o + 2) (Int32.ofNat 0)).set (4 * o + 3) (Int32.ofNat 0)))])) rfl rfl rfl rfl hlen rfl rfl rfl ((m1 _ (ov_hl hlen) (ov_at rfl (ov_lt hlen (by decide))) (ov_at rfl (ov_lt hlen (by decide)))).up (by omega)) rfl ?_
            refine RT_step (pc2 := 138) rfl (fun _ _ => rfl) ?_
            refine bcT_eq rfl (b01_f hd0) ?_
            refine RT_step (pc2 := 162) rfl (fun _ _ => rfl) ?_
            refine RT_step (pc2 := 163) rfl (fun _ _ => rfl) ?_
            refine ow_iv1 (l2 := ((180, M) :: (181, mtl ts) :: [(182, ia nw), (187, lng nz), (200, ia li2)])) rfl rfl rfl rfl hlen rfl rfl rfl ((h.2 H hlen).up (by omega)) rfl ?_
            refine bcF_eq rfl (by decide) ?_
            exact hq _ rfl
      · subst cv
        have hk11 := w_k1 t1 (by decide)
        obtain ⟨T2, M2, c2, x2, m2⟩ := s_adv hB hM hb hn hl (po := (posb vs o)) (pl := pl1) (tk := tk) (td := td) (fp := fp1) (plM := qm1) t1 (by omega) (by omega)
        obtain ⟨a2, kd2, pl2, w2, le2, nu2, fp2, nm2, sg2, qm2, wd2, rfl, rfl, t2⟩ := c2
        obtain ⟨v1, v2, v3, v4, bx2, hadd⟩ := bx_add bx ho (Int32.ofNat 20) (Int32.ofNat j0) (Int32.ofNat 0) (Int32.ofNat 0)
        refine Or.inr ⟨ho, _, tk, td, tcl n lim a2 kd2 pl2 w2 le2 nu2 tk (Int32.ofNat 0) fp2, mcl (Int32.ofNat 0) (Int32.ofNat 0) n lim a2 pl2 (km kd2) nm2 sg2 (Int32.ofNat 0) qm2 wd2 td (posb vs o), v1, v2, v3, v4, (((((li.set (4 * o) (Int32.ofNat 5)).set (4 * o + 1) (Int32.ofNat j0)).set (4 * o + 2) (Int32.ofNat 0)).set (4 * o + 3) (Int32.ofNat 0)).set (4 * o) (Int32.ofNat 2)), tf_td t2, bx2, by simp only [List.length_set]; exact ln, fun H hlen => ?_, fun H dd q hlen hq => ?_⟩
        · have hz : FR 2 71 [.ref 1, .ref 4, .int (Int32.ofNat P)] (ov H ((1, tcl n lim a kd pl w le nu tk (Int32.ofNat 0) fp) :: (2, bcl bs) :: [(3, dcl3 P Dn lw cl id gl bo), (4, lng pn), (5, ia ri), (6, ia lf), (7, ia wa), (8, ia fo), (9, lng dn), (10, ia ha), (11, ia pa), (12, ia bl), (105, bkc o bv), (106, ia u1), (107, ia u2), (108, ia u3), (109, ia u4)])) (some (.int (Int32.ofNat j0)), ov (ov H ((1, tcl n lim a kd pl w le nu tk (Int32.ofNat 0) fp) :: (2, bcl bs) :: [(3, dcl3 P Dn lw cl id gl bo), (4, lng pn), (5, ia ri), (6, ia lf), (7, ia wa), (8, ia fo), (9, lng dn), (10, ia ha), (11, ia pa), (12, ia bl), (105, bkc o bv), (106, ia u1), (107, ia u2), (108, ia u3), (109, ia u4)])) [(1, tcl n lim a kd pl w le nu tk (Int32.ofNat 0) fp)]) := by
            refine FR_st2 (l2 := ((1, tcl n lim a kd pl w le nu tk (Int32.ofNat 0) fp) :: (2, bcl bs) :: [(3, dcl3 P Dn lw cl id gl bo), (4, lng pn), (5, ia ri), (6, ia lf), (7, ia wa), (8, ia fo), (9, lng dn), (10, ia ha), (11, ia pa), (12, ia bl), (105, bkc o bv), (106, ia u1), (107, ia u2), (108, ia u3), (109, ia u4)])) rfl rfl rfl ?_
            refine RT_step (pc2 := 1) rfl (fun _ _ => rfl) ?_
            refine ow_gf rfl rfl rfl hlen rfl ?_
            refine RT_step (pc2 := 7) rfl (fun _ _ => rfl) ?_
            refine rt_acE rfl (by omega) (by omega) ?_
            refine RT_if c ?_
            refine RT_step (pc2 := 19) rfl (fun _ _ => rfl) ?_
            refine RT_step (pc2 := 20) rfl (fun _ _ => rfl) ?_
            refine RT_step (pc2 := 21) rfl (fun _ _ => rfl) ?_
            refine ow_gf rfl rfl rfl hlen rfl ?_
            refine ow_is1 rfl rfl rfl rfl rfl ((x_find4 (ov_hl hlen) (ov_at rfl (ov_lt hlen (by decide))) (by omega) (by omega)).up (by decide)) rfl ?_
            rw [show fdI (fd pn le 0 P 0) = Int32.ofNat j0 from by rw [e0]; rfl]
            refine RT_step (pc2 := 28) rfl (fun _ _ => rfl) ?_
            refine RT_step (pc2 := 29) rfl (fun _ _ => rfl) ?_
            refine rt_ico rfl ki_m1 ?_
            refine biF_ne rfl (n_m1 (by omega)) ?_
            refine RT_step (pc2 := 40) rfl (fun _ _ => rfl) ?_
            exact ow_irt rfl rfl rfl
          have hy : FR 3 73 [.ref 3, .ref 1] (ov H ((1, tcl n lim a kd pl w le nu tk (Int32.ofNat 0) fp) :: (2, bcl bs) :: [(3, dcl3 P Dn lw cl id gl bo), (4, lng pn), (5, ia ri), (6, ia lf), (7, ia wa), (8, ia fo), (9, lng dn), (10, ia ha), (11, ia pa), (12, ia bl), (105, bkc o bv), (106, ia u1), (107, ia u2), (108, ia u3), (109, ia u4)])) (some (.int (Int32.ofNat j0)), ov (ov H ((1, tcl n lim a kd pl w le nu tk (Int32.ofNat 0) fp) :: (2, bcl bs) :: [(3, dcl3 P Dn lw cl id gl bo), (4, lng pn), (5, ia ri), (6, ia lf), (7, ia wa), (8, ia fo), (9, lng dn), (10, ia ha), (11, ia pa), (12, ia bl), (105, bkc o bv), (106, ia u1), (107, ia u2), (108, ia u3), (109, ia u4)])) [(1, tcl n lim a kd pl w le nu tk (Int32.ofNat 0) fp)]) := by
            refine FR_st2 (l2 := ((1, tcl n lim a kd pl w le nu tk (Int32.ofNat 0) fp) :: (2, bcl bs) :: [(3, dcl3 P Dn lw cl id gl bo), (4, lng pn), (5, ia ri), (6, ia lf), (7, ia wa), (8, ia fo), (9, lng dn), (10, ia ha), (11, ia pa), (12, ia bl), (105, bkc o bv), (106, ia u1), (107, ia u2), (108, ia u3), (109, ia u4)])) rfl rfl rfl ?_
            refine RT_step (pc2 := 1) rfl (fun _ _ => rfl) ?_
            refine RT_step (pc2 := 2) rfl (fun _ _ => rfl) ?_
            refine ow_gf rfl rfl rfl hlen rfl ?_
            refine RT_step (pc2 := 6) rfl (fun _ _ => rfl) ?_
            refine ow_gf rfl rfl rfl hlen rfl ?_
            refine ow_is1 (l2 := ((1, tcl n lim a kd pl w le nu tk (Int32.ofNat 0) fp) :: (2, bcl bs) :: [(3, dcl3 P Dn lw cl id gl bo), (4, lng pn), (5, ia ri), (6, ia lf), (7, ia wa), (8, ia fo), (9, lng dn), (10, ia ha), (11, ia pa), (12, ia bl), (105, bkc o bv), (106, ia u1), (107, ia u2), (108, ia u3), (109, ia u4)])) rfl rfl rfl rfl rfl (hz.up (by decide)) rfl ?_
            exact ow_irt rfl rfl rfl
          refine FR_st2 (l2 := ((1, tcl n lim a2 kd2 pl2 w2 le2 nu2 tk (Int32.ofNat 0) fp2) :: (2, bcl bs) :: [(3, dcl3 P Dn lw cl id gl bo), (4, lng pn), (5, ia ri), (6, ia lf), (7, ia wa), (8, ia fo), (9, lng dn), (10, ia ha), (11, ia pa), (12, ia bl), (105, bkc (o + 1) bv), (106, ia v1), (107, ia v2), (108, ia v3), (109, ia v4)])) rfl rfl rfl ?_
          refine RT_step (pc2 := 1) rfl (fun _ _ => rfl) ?_
          refine RT_step (pc2 := 2) rfl (fun _ _ => rfl) ?_
          refine ow_iv1 (l2 := ((1, tcl n lim a kd pl w le nu tk (Int32.ofNat 0) fp) :: (2, bcl bs) :: [(3, dcl3 P Dn lw cl id gl bo), (4, lng pn), (5, ia ri), (6, ia lf), (7, ia wa), (8, ia fo), (9, lng dn), (10, ia ha), (11, ia pa), (12, ia bl), (105, bkc o bv), (106, ia u1), (107, ia u2), (108, ia u3), (109, ia u4)])) rfl rfl rfl rfl hlen rfl rfl rfl (hy.up (by decide)) rfl ?_
          refine RT_step (pc2 := 6) rfl (fun _ _ => rfl) ?_
          refine RT_step (pc2 := 7) rfl (fun _ _ => rfl) ?_
          refine rt_ico rfl ki_m1 ?_
          refine biF_ne rfl (n_m1 (by omega)) ?_
          refine RT_step (pc2 := 14) rfl (fun _ _ => rfl) ?_
          refine ow_gf rfl rfl rfl hlen rfl ?_
          refine rt_bip rfl k8_40 ?_
          refine biT_lt rfl (n_lt (by omega) (by omega)) ?_
          refine RT_step (pc2 := 29) rfl (fun _ _ => rfl) ?_
          refine ow_iv0 (l2 := ((1, tcl n lim a1 kd1 pl1 13 le1 nu1 tk (Int32.ofNat 0) fp1) :: (2, bcl bs) :: [(3, dcl3 P Dn lw cl id gl bo), (4, lng pn), (5, ia ri), (6, ia lf), (7, ia wa), (8, ia fo), (9, lng dn), (10, ia ha), (11, ia pa), (12, ia bl), (105, bkc o bv), (106, ia u1), (107, ia u2), (108, ia u3), (109, ia u4)])) rfl rfl rfl rfl hlen rfl rfl rfl ((x1 _ (ov_hl hlen) (ov_at rfl (ov_lt hlen (by decide))) (ov_at rfl (ov_lt hlen (by decide)))).up (by decide)) rfl ?_
          refine RT_step (pc2 := 33) rfl (fun _ _ => rfl) ?_
          refine ow_gf rfl rfl rfl hlen rfl ?_
          refine RT_step (pc2 := 38) rfl (fun _ _ => rfl) ?_
          refine RT_step (pc2 := 41) rfl (fun _ _ => rfl) ?_
          refine RT_step (pc2 := 43) rfl (fun _ _ => rfl) ?_
          refine rt_ord rfl (by decide) rfl ?_
          refine rt_isw rfl (v := 10) (by decide +kernel) ?_
          refine RT_step (pc2 := 96) rfl (fun _ _ => rfl) ?_
          refine RT_step (pc2 := 97) rfl (fun _ _ => rfl) ?_
          refine rt_bip rfl k8_20 ?_
          refine RT_step (pc2 := 100) rfl (fun _ _ => rfl) ?_
          refine rt_ico rfl ki_0 ?_
          refine rt_ico rfl ki_0 ?_
          refine ow_iv0 (l2 := ((1, tcl n lim a1 kd1 pl1 13 le1 nu1 tk (Int32.ofNat 0) fp1) :: (2, bcl bs) :: [(3, dcl3 P Dn lw cl id gl bo), (4, lng pn), (5, ia ri), (6, ia lf), (7, ia wa), (8, ia fo), (9, lng dn), (10, ia ha), (11, ia pa), (12, ia bl), (105, bkc (o + 1) bv), (106, ia v1), (107, ia v2), (108, ia v3), (109, ia v4)])) rfl rfl rfl rfl hlen rfl rfl rfl ((hadd bv _ (ov_hl hlen) (ov_at rfl (ov_lt hlen (by decide))) (ov_at rfl (ov_lt hlen (by decide))) (ov_at rfl (ov_lt hlen (by decide))) (ov_at rfl (ov_lt hlen (by decide))) (ov_at rfl (ov_lt hlen (by decide)))).up (by decide)) rfl ?_
          refine RT_step (pc2 := 138) rfl (fun _ _ => rfl) ?_
          refine RT_step (pc2 := 139) rfl (fun _ _ => rfl) ?_
          refine ow_iv0 (l2 := ((1, tcl n lim a2 kd2 pl2 w2 le2 nu2 tk (Int32.ofNat 0) fp2) :: (2, bcl bs) :: [(3, dcl3 P Dn lw cl id gl bo), (4, lng pn), (5, ia ri), (6, ia lf), (7, ia wa), (8, ia fo), (9, lng dn), (10, ia ha), (11, ia pa), (12, ia bl), (105, bkc (o + 1) bv), (106, ia v1), (107, ia v2), (108, ia v3), (109, ia v4)])) rfl rfl rfl rfl hlen rfl rfl rfl ((x2 _ (ov_hl hlen) (ov_at rfl (ov_lt hlen (by decide))) (ov_at rfl (ov_lt hlen (by decide)))).up (by decide)) rfl ?_
          refine rt_ico rfl ki_1 ?_
          exact ow_irt rfl rfl rfl
        · have hv2 : FR 8 250 [.ref 180, .int (Int32.ofNat (4 * o))] (ov H ((180, mcl (Int32.ofNat 0) (Int32.ofNat 0) n lim a1 pl1 (km kd1) nm1 sg1 (Int32.ofNat 0) qm1 wd1 td (posb vs o)) :: (181, mtl ts) :: [(182, ia nw), (187, lng nz), (200, ia ((((li.set (4 * o) (Int32.ofNat 5)).set (4 * o + 1) (Int32.ofNat j0)).set (4 * o + 2) (Int32.ofNat 0)).set (4 * o + 3) (Int32.ofNat 0)))])) (some (.int (Int32.ofNat 1)), ov (ov H ((180, mcl (Int32.ofNat 0) (Int32.ofNat 0) n lim a1 pl1 (km kd1) nm1 sg1 (Int32.ofNat 0) qm1 wd1 td (posb vs o)) :: (181, mtl ts) :: [(182, ia nw), (187, lng nz), (200, ia ((((li.set (4 * o) (Int32.ofNat 5)).set (4 * o + 1) (Int32.ofNat j0)).set (4 * o + 2) (Int32.ofNat 0)).set (4 * o + 3) (Int32.ofNat 0)))])) [(180, mcl (Int32.ofNat 0) (Int32.ofNat 0) n lim a2 pl2 (km kd2) nm2 sg2 (Int32.ofNat 0) qm2 wd2 td (posb vs o)), (200, ia (((((li.set (4 * o) (Int32.ofNat 5)).set (4 * o + 1) (Int32.ofNat j0)).set (4 * o + 2) (Int32.ofNat 0)).set (4 * o + 3) (Int32.ofNat 0)).set (4 * o) (Int32.ofNat 2)))]) := by
            refine FR_st2 (l2 := ((180, mcl (Int32.ofNat 0) (Int32.ofNat 0) n lim a2 pl2 (km kd2) nm2 sg2 (Int32.ofNat 0) qm2 wd2 td (posb vs o)) :: (181, mtl ts) :: [(182, ia nw), (187, lng nz), (200, ia (((((li.set (4 * o) (Int32.ofNat 5)).set (4 * o + 1) (Int32.ofNat j0)).set (4 * o + 2) (Int32.ofNat 0)).set (4 * o + 3) (Int32.ofNat 0)).set (4 * o) (Int32.ofNat 2)))])) rfl rfl rfl ?_
            refine rt_bip rfl k8_8 ?_
            refine RT_step (pc2 := 3) rfl (fun _ _ => rfl) ?_
            refine m_vl (z := Int32.ofNat (4 * o)) hlen (km_is kd1 t1.2.2.2.1).2.2.2.2.2 5 8 _ rfl rfl rfl rfl (fun L2 l0 l1 lw => ?_)
            rw [wj_le t1 5 8 (by decide), jv] at lw
            refine rt_ild rfl lw ?_
            refine rt_bip rfl k8_12 ?_
            refine biT_le rfl (n_le (by decide) (by decide)) ?_
            refine rt_ald rfl l0 ?_
            refine ow_gf rfl rfl rfl hlen rfl ?_
            refine rt_ild rfl l1 ?_
            refine rt_ild rfl lw ?_
            refine rt_bip rfl k8_8 ?_
            refine ba_isub rfl ?_
            rw [show Int32.ofNat 10 - Int32.ofNat 8 = Int32.ofNat 2 from rfl]
            refine ow_iasN (l2 := ((180, mcl (Int32.ofNat 0) (Int32.ofNat 0) n lim a1 pl1 (km kd1) nm1 sg1 (Int32.ofNat 0) qm1 wd1 td (posb vs o)) :: (181, mtl ts) :: [(182, ia nw), (187, lng nz), (200, ia (((((li.set (4 * o) (Int32.ofNat 5)).set (4 * o + 1) (Int32.ofNat j0)).set (4 * o + 2) (Int32.ofNat 0)).set (4 * o + 3) (Int32.ofNat 0)).set (4 * o) (Int32.ofNat 2)))])) rfl rfl (by (try simp only [List.length_set]); omega) (by omega) hlen rfl rfl ?_
            refine rt_ald rfl l0 ?_
            refine ow_iv0 (l2 := ((180, mcl (Int32.ofNat 0) (Int32.ofNat 0) n lim a2 pl2 (km kd2) nm2 sg2 (Int32.ofNat 0) qm2 wd2 td (posb vs o)) :: (181, mtl ts) :: [(182, ia nw), (187, lng nz), (200, ia (((((li.set (4 * o) (Int32.ofNat 5)).set (4 * o + 1) (Int32.ofNat j0)).set (4 * o + 2) (Int32.ofNat 0)).set (4 * o + 3) (Int32.ofNat 0)).set (4 * o) (Int32.ofNat 2)))])) rfl rfl rfl rfl hlen rfl rfl rfl ((m2 _ (ov_hl hlen) (ov_at rfl (ov_lt hlen (by decide))) (ov_at rfl (ov_lt hlen (by decide)))).up (by omega)) rfl ?_
            refine rt_ald rfl l0 ?_
            refine ow_gf rfl rfl rfl hlen rfl ?_
            refine rt_ild rfl l1 ?_
            refine ow_ialN rfl rfl (List.getElem?_set_self (by simp only [List.length_set]; omega)) (by omega) hlen rfl ?_
            refine RT_step (pc2 := 141) rfl (fun _ _ => rfl) ?_
            refine rt_ico rfl ki_1 ?_
            exact ow_irt rfl rfl rfl
          refine RT_step (pc2 := 1) rfl (fun _ _ => rfl) ?_
          refine rt_bip rfl k8_16 ?_
          refine ow_iv1 (l2 := ((180, mcl (Int32.ofNat 0) (Int32.ofNat 0) n lim a pl (km kd) nm sg (Int32.ofNat 0) qm wd td (posb vs o)) :: (181, mtl ts) :: [(182, ia nw), (187, lng nz), (200, ia li)])) rfl rfl rfl rfl hlen rfl rfl rfl ((m_isWord (k := 16) (ov_hl hlen) (ov_at rfl (ov_lt hlen (by decide))) (km_is kd t.2.2.2.1).2.2.2.2.2 (by decide)).up (by omega)) rfl ?_
          refine RT_step (pc2 := 7) rfl (fun _ _ => rfl) ?_
          refine RT_step (pc2 := 8) rfl (fun _ _ => rfl) ?_
          refine bcT_ne rfl (b01_f hd0) ?_
          refine RT_step (pc2 := 12) rfl (fun _ _ => rfl) ?_
          refine ow_iv1 (l2 := ((180, mcl (Int32.ofNat 0) (Int32.ofNat 0) n lim a pl (km kd) nm sg (Int32.ofNat 0) qm wd td (posb vs o)) :: (181, mtl ts) :: [(182, ia nw), (187, lng nz), (200, ia li)])) rfl rfl rfl rfl hlen rfl rfl rfl ((m_isName (ov_hl hlen) (ov_at rfl (ov_lt hlen (by decide))) (km_is kd t.2.2.2.1).2.2.2.2.2).up (by omega)) rfl ?_
          refine bcF_ne rfl (b01_t hnm) ?_
          refine RT_step (pc2 := 25) rfl (fun _ _ => rfl) ?_
          refine ow_gf rfl rfl rfl hlen rfl ?_
          refine rt_ico rfl ki_0 ?_
          refine RT_step (pc2 := 30) rfl (fun _ _ => rfl) ?_
          refine ow_gf rfl rfl rfl hlen rfl ?_
          refine rt_ico rfl ki_0 ?_
          refine ow_ialN rfl rfl hv (by omega) hlen rfl ?_
          refine RT_step (pc2 := 36) rfl (fun _ _ => rfl) ?_
          refine ow_gf rfl rfl rfl hlen rfl ?_
          refine ow_is1 (l2 := ((180, mcl (Int32.ofNat 0) (Int32.ofNat 0) n lim a pl (km kd) nm sg (Int32.ofNat 0) qm wd td (posb vs o)) :: (181, mtl ts) :: [(182, ia nw), (187, lng nz), (200, ia li)])) rfl rfl rfl rfl rfl ((m_find7 (bs0 := 0) (cnt := P) (ov_hl hlen) (ov_at rfl (ov_lt hlen (by decide))) (by omega) (by omega)).up (by omega)) rfl ?_
          rw [show fdI (fd nz wd 0 P 0) = Int32.ofNat j0 from by rw [g0]; rfl]
          refine rt_ico rfl ki_m1 ?_
          refine biF_ne rfl (n_m1 (by omega)) ?_
          refine RT_step (pc2 := 53) rfl (fun _ _ => rfl) ?_
          refine ow_gf rfl rfl rfl hlen rfl ?_
          refine rt_bip rfl k8_40 ?_
          refine biF_ne rfl (n_ne co (by omega) (by omega)) ?_
          refine rt_ico rfl ki_4 ?_
          refine RT_step (pc2 := 69) rfl (fun _ _ => rfl) ?_
          refine ow_gf rfl rfl rfl hlen rfl ?_
          refine ba_imul rfl ?_
          rw [nmul4]
          refine RT_step (pc2 := 74) rfl (fun _ _ => rfl) ?_
          refine RT_step (pc2 := 75) rfl (fun _ _ => rfl) ?_
          refine ow_gf rfl rfl rfl hlen rfl ?_
          refine RT_step (pc2 := 79) rfl (fun _ _ => rfl) ?_
          refine rt_ico rfl ki_5 ?_
          refine ow_iasN (l2 := ((180, mcl (Int32.ofNat 0) (Int32.ofNat 0) n lim a pl (km kd) nm sg (Int32.ofNat 0) qm wd td (posb vs o)) :: (181, mtl ts) :: [(182, ia nw), (187, lng nz), (200, ia (li.set (4 * o) (Int32.ofNat 5)))])) rfl rfl (by (try simp only [List.length_set]); omega) (by omega) hlen rfl rfl ?_
          refine RT_step (pc2 := 82) rfl (fun _ _ => rfl) ?_
          refine ow_gf rfl rfl rfl hlen rfl ?_
          refine RT_step (pc2 := 86) rfl (fun _ _ => rfl) ?_
          refine rt_ico rfl ki_1 ?_
          refine ba_iadd rfl ?_
          rw [n_add]
          refine RT_step (pc2 := 89) rfl (fun _ _ => rfl) ?_
          refine bcT_eq rfl (b01_f hd0) ?_
          refine RT_step (pc2 := 97) rfl (fun _ _ => rfl) ?_
          refine ow_gf rfl rfl rfl hlen rfl ?_
          refine rt_ico rfl ki_0 ?_
          refine RT_step (pc2 := 102) rfl (fun _ _ => rfl) ?_
          refine ow_gf rfl rfl rfl hlen rfl ?_
          refine rt_ico rfl ki_0 ?_
          refine ow_ialN rfl rfl hv (by omega) hlen rfl ?_
          refine RT_step (pc2 := 108) rfl (fun _ _ => rfl) ?_
          refine ow_gf rfl rfl rfl hlen rfl ?_
          refine ow_is1 (l2 := ((180, mcl (Int32.ofNat 0) (Int32.ofNat 0) n lim a pl (km kd) nm sg (Int32.ofNat 0) qm wd td (posb vs o)) :: (181, mtl ts) :: [(182, ia nw), (187, lng nz), (200, ia (li.set (4 * o) (Int32.ofNat 5)))])) rfl rfl rfl rfl rfl ((m_find7 (bs0 := 0) (cnt := P) (ov_hl hlen) (ov_at rfl (ov_lt hlen (by decide))) (by omega) (by omega)).up (by omega)) rfl ?_
          rw [show fdI (fd nz wd 0 P 0) = Int32.ofNat j0 from by rw [g0]; rfl]
          refine ow_iasN (l2 := ((180, mcl (Int32.ofNat 0) (Int32.ofNat 0) n lim a pl (km kd) nm sg (Int32.ofNat 0) qm wd td (posb vs o)) :: (181, mtl ts) :: [(182, ia nw), (187, lng nz), (200, ia ((li.set (4 * o) (Int32.ofNat 5)).set (4 * o + 1) (Int32.ofNat j0)))])) rfl rfl (by (try simp only [List.length_set]); omega) (by omega) hlen rfl rfl ?_
          refine RT_step (pc2 := 116) rfl (fun _ _ => rfl) ?_
          refine ow_gf rfl rfl rfl hlen rfl ?_
          refine RT_step (pc2 := 120) rfl (fun _ _ => rfl) ?_
          refine rt_ico rfl ki_2 ?_
          refine ba_iadd rfl ?_
          rw [n_add]
          refine rt_ico rfl ki_0 ?_
          refine ow_iasN (l2 := ((180, mcl (Int32.ofNat 0) (Int32.ofNat 0) n lim a pl (km kd) nm sg (Int32.ofNat 0) qm wd td (posb vs o)) :: (181, mtl ts) :: [(182, ia nw), (187, lng nz), (200, ia (((li.set (4 * o) (Int32.ofNat 5)).set (4 * o + 1) (Int32.ofNat j0)).set (4 * o + 2) (Int32.ofNat 0)))])) rfl rfl (by (try simp only [List.length_set]); omega) (by omega) hlen rfl rfl ?_
          refine RT_step (pc2 := 125) rfl (fun _ _ => rfl) ?_
          refine ow_gf rfl rfl rfl hlen rfl ?_
          refine RT_step (pc2 := 129) rfl (fun _ _ => rfl) ?_
          refine rt_ico rfl ki_3 ?_
          refine ba_iadd rfl ?_
          rw [n_add]
          refine rt_ico rfl ki_0 ?_
          refine ow_iasN (l2 := ((180, mcl (Int32.ofNat 0) (Int32.ofNat 0) n lim a pl (km kd) nm sg (Int32.ofNat 0) qm wd td (posb vs o)) :: (181, mtl ts) :: [(182, ia nw), (187, lng nz), (200, ia ((((li.set (4 * o) (Int32.ofNat 5)).set (4 * o + 1) (Int32.ofNat j0)).set (4 * o + 2) (Int32.ofNat 0)).set (4 * o + 3) (Int32.ofNat 0)))])) rfl rfl (by (try simp only [List.length_set]); omega) (by omega) hlen rfl rfl ?_
          refine RT_step (pc2 := 134) rfl (fun _ _ => rfl) ?_
          refine ow_iv0 (l2 := ((180, mcl (Int32.ofNat 0) (Int32.ofNat 0) n lim a1 pl1 (km kd1) nm1 sg1 (Int32.ofNat 0) qm1 wd1 td (posb vs o)) :: (181, mtl ts) :: [(182, ia nw), (187, lng nz), (200, ia ((((li.set (4 * o) (Int32.ofNat 5)).set (4 * o + 1) (Int32.ofNat j0)).set (4 * o + 2) (Int32.ofNat 0)).set (4 * o + 3) (Int32.ofNat 0)))])) rfl rfl rfl rfl hlen rfl rfl rfl ((m1 _ (ov_hl hlen) (ov_at rfl (ov_lt hlen (by decide))) (ov_at rfl (ov_lt hlen (by decide)))).up (by omega)) rfl ?_
          refine RT_step (pc2 := 138) rfl (fun _ _ => rfl) ?_
          refine bcT_eq rfl (b01_f hd0) ?_
          refine RT_step (pc2 := 162) rfl (fun _ _ => rfl) ?_
          refine RT_step (pc2 := 163) rfl (fun _ _ => rfl) ?_
          refine ow_iv1 (l2 := ((180, mcl (Int32.ofNat 0) (Int32.ofNat 0) n lim a2 pl2 (km kd2) nm2 sg2 (Int32.ofNat 0) qm2 wd2 td (posb vs o)) :: (181, mtl ts) :: [(182, ia nw), (187, lng nz), (200, ia (((((li.set (4 * o) (Int32.ofNat 5)).set (4 * o + 1) (Int32.ofNat j0)).set (4 * o + 2) (Int32.ofNat 0)).set (4 * o + 3) (Int32.ofNat 0)).set (4 * o) (Int32.ofNat 2)))])) rfl rfl rfl rfl hlen rfl rfl rfl (hv2.up (by omega)) rfl ?_
          refine bcF_eq rfl (by decide) ?_
          exact hq _ rfl
      · subst cv
        have hk11 := w_k1 t1 (by decide)
        obtain ⟨T2, M2, c2, x2, m2⟩ := s_adv hB hM hb hn hl (po := (posb vs o)) (pl := pl1) (tk := tk) (td := td) (fp := fp1) (plM := qm1) t1 (by omega) (by omega)
        obtain ⟨a2, kd2, pl2, w2, le2, nu2, fp2, nm2, sg2, qm2, wd2, rfl, rfl, t2⟩ := c2
        obtain ⟨v1, v2, v3, v4, bx2, hadd⟩ := bx_add bx ho (Int32.ofNat 30) (Int32.ofNat j0) (Int32.ofNat 0) (Int32.ofNat 0)
        refine Or.inr ⟨ho, _, tk, td, tcl n lim a2 kd2 pl2 w2 le2 nu2 tk (Int32.ofNat 0) fp2, mcl (Int32.ofNat 0) (Int32.ofNat 0) n lim a2 pl2 (km kd2) nm2 sg2 (Int32.ofNat 0) qm2 wd2 td (posb vs o), v1, v2, v3, v4, (((((li.set (4 * o) (Int32.ofNat 5)).set (4 * o + 1) (Int32.ofNat j0)).set (4 * o + 2) (Int32.ofNat 0)).set (4 * o + 3) (Int32.ofNat 0)).set (4 * o) (Int32.ofNat 3)), tf_td t2, bx2, by simp only [List.length_set]; exact ln, fun H hlen => ?_, fun H dd q hlen hq => ?_⟩
        · have hz : FR 2 71 [.ref 1, .ref 4, .int (Int32.ofNat P)] (ov H ((1, tcl n lim a kd pl w le nu tk (Int32.ofNat 0) fp) :: (2, bcl bs) :: [(3, dcl3 P Dn lw cl id gl bo), (4, lng pn), (5, ia ri), (6, ia lf), (7, ia wa), (8, ia fo), (9, lng dn), (10, ia ha), (11, ia pa), (12, ia bl), (105, bkc o bv), (106, ia u1), (107, ia u2), (108, ia u3), (109, ia u4)])) (some (.int (Int32.ofNat j0)), ov (ov H ((1, tcl n lim a kd pl w le nu tk (Int32.ofNat 0) fp) :: (2, bcl bs) :: [(3, dcl3 P Dn lw cl id gl bo), (4, lng pn), (5, ia ri), (6, ia lf), (7, ia wa), (8, ia fo), (9, lng dn), (10, ia ha), (11, ia pa), (12, ia bl), (105, bkc o bv), (106, ia u1), (107, ia u2), (108, ia u3), (109, ia u4)])) [(1, tcl n lim a kd pl w le nu tk (Int32.ofNat 0) fp)]) := by
            refine FR_st2 (l2 := ((1, tcl n lim a kd pl w le nu tk (Int32.ofNat 0) fp) :: (2, bcl bs) :: [(3, dcl3 P Dn lw cl id gl bo), (4, lng pn), (5, ia ri), (6, ia lf), (7, ia wa), (8, ia fo), (9, lng dn), (10, ia ha), (11, ia pa), (12, ia bl), (105, bkc o bv), (106, ia u1), (107, ia u2), (108, ia u3), (109, ia u4)])) rfl rfl rfl ?_
            refine RT_step (pc2 := 1) rfl (fun _ _ => rfl) ?_
            refine ow_gf rfl rfl rfl hlen rfl ?_
            refine RT_step (pc2 := 7) rfl (fun _ _ => rfl) ?_
            refine rt_acE rfl (by omega) (by omega) ?_
            refine RT_if c ?_
            refine RT_step (pc2 := 19) rfl (fun _ _ => rfl) ?_
            refine RT_step (pc2 := 20) rfl (fun _ _ => rfl) ?_
            refine RT_step (pc2 := 21) rfl (fun _ _ => rfl) ?_
            refine ow_gf rfl rfl rfl hlen rfl ?_
            refine ow_is1 rfl rfl rfl rfl rfl ((x_find4 (ov_hl hlen) (ov_at rfl (ov_lt hlen (by decide))) (by omega) (by omega)).up (by decide)) rfl ?_
            rw [show fdI (fd pn le 0 P 0) = Int32.ofNat j0 from by rw [e0]; rfl]
            refine RT_step (pc2 := 28) rfl (fun _ _ => rfl) ?_
            refine RT_step (pc2 := 29) rfl (fun _ _ => rfl) ?_
            refine rt_ico rfl ki_m1 ?_
            refine biF_ne rfl (n_m1 (by omega)) ?_
            refine RT_step (pc2 := 40) rfl (fun _ _ => rfl) ?_
            exact ow_irt rfl rfl rfl
          have hy : FR 3 73 [.ref 3, .ref 1] (ov H ((1, tcl n lim a kd pl w le nu tk (Int32.ofNat 0) fp) :: (2, bcl bs) :: [(3, dcl3 P Dn lw cl id gl bo), (4, lng pn), (5, ia ri), (6, ia lf), (7, ia wa), (8, ia fo), (9, lng dn), (10, ia ha), (11, ia pa), (12, ia bl), (105, bkc o bv), (106, ia u1), (107, ia u2), (108, ia u3), (109, ia u4)])) (some (.int (Int32.ofNat j0)), ov (ov H ((1, tcl n lim a kd pl w le nu tk (Int32.ofNat 0) fp) :: (2, bcl bs) :: [(3, dcl3 P Dn lw cl id gl bo), (4, lng pn), (5, ia ri), (6, ia lf), (7, ia wa), (8, ia fo), (9, lng dn), (10, ia ha), (11, ia pa), (12, ia bl), (105, bkc o bv), (106, ia u1), (107, ia u2), (108, ia u3), (109, ia u4)])) [(1, tcl n lim a kd pl w le nu tk (Int32.ofNat 0) fp)]) := by
            refine FR_st2 (l2 := ((1, tcl n lim a kd pl w le nu tk (Int32.ofNat 0) fp) :: (2, bcl bs) :: [(3, dcl3 P Dn lw cl id gl bo), (4, lng pn), (5, ia ri), (6, ia lf), (7, ia wa), (8, ia fo), (9, lng dn), (10, ia ha), (11, ia pa), (12, ia bl), (105, bkc o bv), (106, ia u1), (107, ia u2), (108, ia u3), (109, ia u4)])) rfl rfl rfl ?_
            refine RT_step (pc2 := 1) rfl (fun _ _ => rfl) ?_
            refine RT_step (pc2 := 2) rfl (fun _ _ => rfl) ?_
            refine ow_gf rfl rfl rfl hlen rfl ?_
            refine RT_step (pc2 := 6) rfl (fun _ _ => rfl) ?_
            refine ow_gf rfl rfl rfl hlen rfl ?_
            refine ow_is1 (l2 := ((1, tcl n lim a kd pl w le nu tk (Int32.ofNat 0) fp) :: (2, bcl bs) :: [(3, dcl3 P Dn lw cl id gl bo), (4, lng pn), (5, ia ri), (6, ia lf), (7, ia wa), (8, ia fo), (9, lng dn), (10, ia ha), (11, ia pa), (12, ia bl), (105, bkc o bv), (106, ia u1), (107, ia u2), (108, ia u3), (109, ia u4)])) rfl rfl rfl rfl rfl (hz.up (by decide)) rfl ?_
            exact ow_irt rfl rfl rfl
          refine FR_st2 (l2 := ((1, tcl n lim a2 kd2 pl2 w2 le2 nu2 tk (Int32.ofNat 0) fp2) :: (2, bcl bs) :: [(3, dcl3 P Dn lw cl id gl bo), (4, lng pn), (5, ia ri), (6, ia lf), (7, ia wa), (8, ia fo), (9, lng dn), (10, ia ha), (11, ia pa), (12, ia bl), (105, bkc (o + 1) bv), (106, ia v1), (107, ia v2), (108, ia v3), (109, ia v4)])) rfl rfl rfl ?_
          refine RT_step (pc2 := 1) rfl (fun _ _ => rfl) ?_
          refine RT_step (pc2 := 2) rfl (fun _ _ => rfl) ?_
          refine ow_iv1 (l2 := ((1, tcl n lim a kd pl w le nu tk (Int32.ofNat 0) fp) :: (2, bcl bs) :: [(3, dcl3 P Dn lw cl id gl bo), (4, lng pn), (5, ia ri), (6, ia lf), (7, ia wa), (8, ia fo), (9, lng dn), (10, ia ha), (11, ia pa), (12, ia bl), (105, bkc o bv), (106, ia u1), (107, ia u2), (108, ia u3), (109, ia u4)])) rfl rfl rfl rfl hlen rfl rfl rfl (hy.up (by decide)) rfl ?_
          refine RT_step (pc2 := 6) rfl (fun _ _ => rfl) ?_
          refine RT_step (pc2 := 7) rfl (fun _ _ => rfl) ?_
          refine rt_ico rfl ki_m1 ?_
          refine biF_ne rfl (n_m1 (by omega)) ?_
          refine RT_step (pc2 := 14) rfl (fun _ _ => rfl) ?_
          refine ow_gf rfl rfl rfl hlen rfl ?_
          refine rt_bip rfl k8_40 ?_
          refine biT_lt rfl (n_lt (by omega) (by omega)) ?_
          refine RT_step (pc2 := 29) rfl (fun _ _ => rfl) ?_
          refine ow_iv0 (l2 := ((1, tcl n lim a1 kd1 pl1 14 le1 nu1 tk (Int32.ofNat 0) fp1) :: (2, bcl bs) :: [(3, dcl3 P Dn lw cl id gl bo), (4, lng pn), (5, ia ri), (6, ia lf), (7, ia wa), (8, ia fo), (9, lng dn), (10, ia ha), (11, ia pa), (12, ia bl), (105, bkc o bv), (106, ia u1), (107, ia u2), (108, ia u3), (109, ia u4)])) rfl rfl rfl rfl hlen rfl rfl rfl ((x1 _ (ov_hl hlen) (ov_at rfl (ov_lt hlen (by decide))) (ov_at rfl (ov_lt hlen (by decide)))).up (by decide)) rfl ?_
          refine RT_step (pc2 := 33) rfl (fun _ _ => rfl) ?_
          refine ow_gf rfl rfl rfl hlen rfl ?_
          refine RT_step (pc2 := 38) rfl (fun _ _ => rfl) ?_
          refine RT_step (pc2 := 41) rfl (fun _ _ => rfl) ?_
          refine RT_step (pc2 := 43) rfl (fun _ _ => rfl) ?_
          refine rt_ord rfl (by decide) rfl ?_
          refine rt_isw rfl (v := 11) (by decide +kernel) ?_
          refine RT_step (pc2 := 108) rfl (fun _ _ => rfl) ?_
          refine RT_step (pc2 := 109) rfl (fun _ _ => rfl) ?_
          refine rt_bip rfl k8_30 ?_
          refine RT_step (pc2 := 112) rfl (fun _ _ => rfl) ?_
          refine rt_ico rfl ki_0 ?_
          refine rt_ico rfl ki_0 ?_
          refine ow_iv0 (l2 := ((1, tcl n lim a1 kd1 pl1 14 le1 nu1 tk (Int32.ofNat 0) fp1) :: (2, bcl bs) :: [(3, dcl3 P Dn lw cl id gl bo), (4, lng pn), (5, ia ri), (6, ia lf), (7, ia wa), (8, ia fo), (9, lng dn), (10, ia ha), (11, ia pa), (12, ia bl), (105, bkc (o + 1) bv), (106, ia v1), (107, ia v2), (108, ia v3), (109, ia v4)])) rfl rfl rfl rfl hlen rfl rfl rfl ((hadd bv _ (ov_hl hlen) (ov_at rfl (ov_lt hlen (by decide))) (ov_at rfl (ov_lt hlen (by decide))) (ov_at rfl (ov_lt hlen (by decide))) (ov_at rfl (ov_lt hlen (by decide))) (ov_at rfl (ov_lt hlen (by decide)))).up (by decide)) rfl ?_
          refine RT_step (pc2 := 138) rfl (fun _ _ => rfl) ?_
          refine RT_step (pc2 := 139) rfl (fun _ _ => rfl) ?_
          refine ow_iv0 (l2 := ((1, tcl n lim a2 kd2 pl2 w2 le2 nu2 tk (Int32.ofNat 0) fp2) :: (2, bcl bs) :: [(3, dcl3 P Dn lw cl id gl bo), (4, lng pn), (5, ia ri), (6, ia lf), (7, ia wa), (8, ia fo), (9, lng dn), (10, ia ha), (11, ia pa), (12, ia bl), (105, bkc (o + 1) bv), (106, ia v1), (107, ia v2), (108, ia v3), (109, ia v4)])) rfl rfl rfl rfl hlen rfl rfl rfl ((x2 _ (ov_hl hlen) (ov_at rfl (ov_lt hlen (by decide))) (ov_at rfl (ov_lt hlen (by decide)))).up (by decide)) rfl ?_
          refine rt_ico rfl ki_1 ?_
          exact ow_irt rfl rfl rfl
        · have hv2 : FR 8 250 [.ref 180, .int (Int32.ofNat (4 * o))] (ov H ((180, mcl (Int32.ofNat 0) (Int32.ofNat 0) n lim a1 pl1 (km kd1) nm1 sg1 (Int32.ofNat 0) qm1 wd1 td (posb vs o)) :: (181, mtl ts) :: [(182, ia nw), (187, lng nz), (200, ia ((((li.set (4 * o) (Int32.ofNat 5)).set (4 * o + 1) (Int32.ofNat j0)).set (4 * o + 2) (Int32.ofNat 0)).set (4 * o + 3) (Int32.ofNat 0)))])) (some (.int (Int32.ofNat 1)), ov (ov H ((180, mcl (Int32.ofNat 0) (Int32.ofNat 0) n lim a1 pl1 (km kd1) nm1 sg1 (Int32.ofNat 0) qm1 wd1 td (posb vs o)) :: (181, mtl ts) :: [(182, ia nw), (187, lng nz), (200, ia ((((li.set (4 * o) (Int32.ofNat 5)).set (4 * o + 1) (Int32.ofNat j0)).set (4 * o + 2) (Int32.ofNat 0)).set (4 * o + 3) (Int32.ofNat 0)))])) [(180, mcl (Int32.ofNat 0) (Int32.ofNat 0) n lim a2 pl2 (km kd2) nm2 sg2 (Int32.ofNat 0) qm2 wd2 td (posb vs o)), (200, ia (((((li.set (4 * o) (Int32.ofNat 5)).set (4 * o + 1) (Int32.ofNat j0)).set (4 * o + 2) (Int32.ofNat 0)).set (4 * o + 3) (Int32.ofNat 0)).set (4 * o) (Int32.ofNat 3)))]) := by
            refine FR_st2 (l2 := ((180, mcl (Int32.ofNat 0) (Int32.ofNat 0) n lim a2 pl2 (km kd2) nm2 sg2 (Int32.ofNat 0) qm2 wd2 td (posb vs o)) :: (181, mtl ts) :: [(182, ia nw), (187, lng nz), (200, ia (((((li.set (4 * o) (Int32.ofNat 5)).set (4 * o + 1) (Int32.ofNat j0)).set (4 * o + 2) (Int32.ofNat 0)).set (4 * o + 3) (Int32.ofNat 0)).set (4 * o) (Int32.ofNat 3)))])) rfl rfl rfl ?_
            refine rt_bip rfl k8_8 ?_
            refine RT_step (pc2 := 3) rfl (fun _ _ => rfl) ?_
            refine m_vl (z := Int32.ofNat (4 * o)) hlen (km_is kd1 t1.2.2.2.1).2.2.2.2.2 5 8 _ rfl rfl rfl rfl (fun L2 l0 l1 lw => ?_)
            rw [wj_le t1 5 8 (by decide), jv] at lw
            refine rt_ild rfl lw ?_
            refine rt_bip rfl k8_12 ?_
            refine biT_le rfl (n_le (by decide) (by decide)) ?_
            refine rt_ald rfl l0 ?_
            refine ow_gf rfl rfl rfl hlen rfl ?_
            refine rt_ild rfl l1 ?_
            refine rt_ild rfl lw ?_
            refine rt_bip rfl k8_8 ?_
            refine ba_isub rfl ?_
            rw [show Int32.ofNat 11 - Int32.ofNat 8 = Int32.ofNat 3 from rfl]
            refine ow_iasN (l2 := ((180, mcl (Int32.ofNat 0) (Int32.ofNat 0) n lim a1 pl1 (km kd1) nm1 sg1 (Int32.ofNat 0) qm1 wd1 td (posb vs o)) :: (181, mtl ts) :: [(182, ia nw), (187, lng nz), (200, ia (((((li.set (4 * o) (Int32.ofNat 5)).set (4 * o + 1) (Int32.ofNat j0)).set (4 * o + 2) (Int32.ofNat 0)).set (4 * o + 3) (Int32.ofNat 0)).set (4 * o) (Int32.ofNat 3)))])) rfl rfl (by (try simp only [List.length_set]); omega) (by omega) hlen rfl rfl ?_
            refine rt_ald rfl l0 ?_
            refine ow_iv0 (l2 := ((180, mcl (Int32.ofNat 0) (Int32.ofNat 0) n lim a2 pl2 (km kd2) nm2 sg2 (Int32.ofNat 0) qm2 wd2 td (posb vs o)) :: (181, mtl ts) :: [(182, ia nw), (187, lng nz), (200, ia (((((li.set (4 * o) (Int32.ofNat 5)).set (4 * o + 1) (Int32.ofNat j0)).set (4 * o + 2) (Int32.ofNat 0)).set (4 * o + 3) (Int32.ofNat 0)).set (4 * o) (Int32.ofNat 3)))])) rfl rfl rfl rfl hlen rfl rfl rfl ((m2 _ (ov_hl hlen) (ov_at rfl (ov_lt hlen (by decide))) (ov_at rfl (ov_lt hlen (by decide)))).up (by omega)) rfl ?_
            refine rt_ald rfl l0 ?_
            refine ow_gf rfl rfl rfl hlen rfl ?_
            refine rt_ild rfl l1 ?_
            refine ow_ialN rfl rfl (List.getElem?_set_self (by simp only [List.length_set]; omega)) (by omega) hlen rfl ?_
            refine RT_step (pc2 := 141) rfl (fun _ _ => rfl) ?_
            refine rt_ico rfl ki_1 ?_
            exact ow_irt rfl rfl rfl
          refine RT_step (pc2 := 1) rfl (fun _ _ => rfl) ?_
          refine rt_bip rfl k8_16 ?_
          refine ow_iv1 (l2 := ((180, mcl (Int32.ofNat 0) (Int32.ofNat 0) n lim a pl (km kd) nm sg (Int32.ofNat 0) qm wd td (posb vs o)) :: (181, mtl ts) :: [(182, ia nw), (187, lng nz), (200, ia li)])) rfl rfl rfl rfl hlen rfl rfl rfl ((m_isWord (k := 16) (ov_hl hlen) (ov_at rfl (ov_lt hlen (by decide))) (km_is kd t.2.2.2.1).2.2.2.2.2 (by decide)).up (by omega)) rfl ?_
          refine RT_step (pc2 := 7) rfl (fun _ _ => rfl) ?_
          refine RT_step (pc2 := 8) rfl (fun _ _ => rfl) ?_
          refine bcT_ne rfl (b01_f hd0) ?_
          refine RT_step (pc2 := 12) rfl (fun _ _ => rfl) ?_
          refine ow_iv1 (l2 := ((180, mcl (Int32.ofNat 0) (Int32.ofNat 0) n lim a pl (km kd) nm sg (Int32.ofNat 0) qm wd td (posb vs o)) :: (181, mtl ts) :: [(182, ia nw), (187, lng nz), (200, ia li)])) rfl rfl rfl rfl hlen rfl rfl rfl ((m_isName (ov_hl hlen) (ov_at rfl (ov_lt hlen (by decide))) (km_is kd t.2.2.2.1).2.2.2.2.2).up (by omega)) rfl ?_
          refine bcF_ne rfl (b01_t hnm) ?_
          refine RT_step (pc2 := 25) rfl (fun _ _ => rfl) ?_
          refine ow_gf rfl rfl rfl hlen rfl ?_
          refine rt_ico rfl ki_0 ?_
          refine RT_step (pc2 := 30) rfl (fun _ _ => rfl) ?_
          refine ow_gf rfl rfl rfl hlen rfl ?_
          refine rt_ico rfl ki_0 ?_
          refine ow_ialN rfl rfl hv (by omega) hlen rfl ?_
          refine RT_step (pc2 := 36) rfl (fun _ _ => rfl) ?_
          refine ow_gf rfl rfl rfl hlen rfl ?_
          refine ow_is1 (l2 := ((180, mcl (Int32.ofNat 0) (Int32.ofNat 0) n lim a pl (km kd) nm sg (Int32.ofNat 0) qm wd td (posb vs o)) :: (181, mtl ts) :: [(182, ia nw), (187, lng nz), (200, ia li)])) rfl rfl rfl rfl rfl ((m_find7 (bs0 := 0) (cnt := P) (ov_hl hlen) (ov_at rfl (ov_lt hlen (by decide))) (by omega) (by omega)).up (by omega)) rfl ?_
          rw [show fdI (fd nz wd 0 P 0) = Int32.ofNat j0 from by rw [g0]; rfl]
          refine rt_ico rfl ki_m1 ?_
          refine biF_ne rfl (n_m1 (by omega)) ?_
          refine RT_step (pc2 := 53) rfl (fun _ _ => rfl) ?_
          refine ow_gf rfl rfl rfl hlen rfl ?_
          refine rt_bip rfl k8_40 ?_
          refine biF_ne rfl (n_ne co (by omega) (by omega)) ?_
          refine rt_ico rfl ki_4 ?_
          refine RT_step (pc2 := 69) rfl (fun _ _ => rfl) ?_
          refine ow_gf rfl rfl rfl hlen rfl ?_
          refine ba_imul rfl ?_
          rw [nmul4]
          refine RT_step (pc2 := 74) rfl (fun _ _ => rfl) ?_
          refine RT_step (pc2 := 75) rfl (fun _ _ => rfl) ?_
          refine ow_gf rfl rfl rfl hlen rfl ?_
          refine RT_step (pc2 := 79) rfl (fun _ _ => rfl) ?_
          refine rt_ico rfl ki_5 ?_
          refine ow_iasN (l2 := ((180, mcl (Int32.ofNat 0) (Int32.ofNat 0) n lim a pl (km kd) nm sg (Int32.ofNat 0) qm wd td (posb vs o)) :: (181, mtl ts) :: [(182, ia nw), (187, lng nz), (200, ia (li.set (4 * o) (Int32.ofNat 5)))])) rfl rfl (by (try simp only [List.length_set]); omega) (by omega) hlen rfl rfl ?_
          refine RT_step (pc2 := 82) rfl (fun _ _ => rfl) ?_
          refine ow_gf rfl rfl rfl hlen rfl ?_
          refine RT_step (pc2 := 86) rfl (fun _ _ => rfl) ?_
          refine rt_ico rfl ki_1 ?_
          refine ba_iadd rfl ?_
          rw [n_add]
          refine RT_step (pc2 := 89) rfl (fun _ _ => rfl) ?_
          refine bcT_eq rfl (b01_f hd0) ?_
          refine RT_step (pc2 := 97) rfl (fun _ _ => rfl) ?_
          refine ow_gf rfl rfl rfl hlen rfl ?_
          refine rt_ico rfl ki_0 ?_
          refine RT_step (pc2 := 102) rfl (fun _ _ => rfl) ?_
          refine ow_gf rfl rfl rfl hlen rfl ?_
          refine rt_ico rfl ki_0 ?_
          refine ow_ialN rfl rfl hv (by omega) hlen rfl ?_
          refine RT_step (pc2 := 108) rfl (fun _ _ => rfl) ?_
          refine ow_gf rfl rfl rfl hlen rfl ?_
          refine ow_is1 (l2 := ((180, mcl (Int32.ofNat 0) (Int32.ofNat 0) n lim a pl (km kd) nm sg (Int32.ofNat 0) qm wd td (posb vs o)) :: (181, mtl ts) :: [(182, ia nw), (187, lng nz), (200, ia (li.set (4 * o) (Int32.ofNat 5)))])) rfl rfl rfl rfl rfl ((m_find7 (bs0 := 0) (cnt := P) (ov_hl hlen) (ov_at rfl (ov_lt hlen (by decide))) (by omega) (by omega)).up (by omega)) rfl ?_
          rw [show fdI (fd nz wd 0 P 0) = Int32.ofNat j0 from by rw [g0]; rfl]
          refine ow_iasN (l2 := ((180, mcl (Int32.ofNat 0) (Int32.ofNat 0) n lim a pl (km kd) nm sg (Int32.ofNat 0) qm wd td (posb vs o)) :: (181, mtl ts) :: [(182, ia nw), (187, lng nz), (200, ia ((li.set (4 * o) (Int32.ofNat 5)).set (4 * o + 1) (Int32.ofNat j0)))])) rfl rfl (by (try simp only [List.length_set]); omega) (by omega) hlen rfl rfl ?_
          refine RT_step (pc2 := 116) rfl (fun _ _ => rfl) ?_
          refine ow_gf rfl rfl rfl hlen rfl ?_
          refine RT_step (pc2 := 120) rfl (fun _ _ => rfl) ?_
          refine rt_ico rfl ki_2 ?_
          refine ba_iadd rfl ?_
          rw [n_add]
          refine rt_ico rfl ki_0 ?_
          refine ow_iasN (l2 := ((180, mcl (Int32.ofNat 0) (Int32.ofNat 0) n lim a pl (km kd) nm sg (Int32.ofNat 0) qm wd td (posb vs o)) :: (181, mtl ts) :: [(182, ia nw), (187, lng nz), (200, ia (((li.set (4 * o) (Int32.ofNat 5)).set (4 * o + 1) (Int32.ofNat j0)).set (4 * o + 2) (Int32.ofNat 0)))])) rfl rfl (by (try simp only [List.length_set]); omega) (by omega) hlen rfl rfl ?_
          refine RT_step (pc2 := 125) rfl (fun _ _ => rfl) ?_
          refine ow_gf rfl rfl rfl hlen rfl ?_
          refine RT_step (pc2 := 129) rfl (fun _ _ => rfl) ?_
          refine rt_ico rfl ki_3 ?_
          refine ba_iadd rfl ?_
          rw [n_add]
          refine rt_ico rfl ki_0 ?_
          refine ow_iasN (l2 := ((180, mcl (Int32.ofNat 0) (Int32.ofNat 0) n lim a pl (km kd) nm sg (Int32.ofNat 0) qm wd td (posb vs o)) :: (181, mtl ts) :: [(182, ia nw), (187, lng nz), (200, ia ((((li.set (4 * o) (Int32.ofNat 5)).set (4 * o + 1) (Int32.ofNat j0)).set (4 * o + 2) (Int32.ofNat 0)).set (4 * o + 3) (Int32.ofNat 0)))])) rfl rfl (by (try simp only [List.length_set]); omega) (by omega) hlen rfl rfl ?_
          refine RT_step (pc2 := 134) rfl (fun _ _ => rfl) ?_
          refine ow_iv0 (l2 := ((180, mcl (Int32.ofNat 0) (Int32.ofNat 0) n lim a1 pl1 (km kd1) nm1 sg1 (Int32.ofNat 0) qm1 wd1 td (posb vs o)) :: (181, mtl ts) :: [(182, ia nw), (187, lng nz), (200, ia ((((li.set (4 * o) (Int32.ofNat 5)).set (4 * o + 1) (Int32.ofNat j0)).set (4 * o + 2) (Int32.ofNat 0)).set (4 * o + 3) (Int32.ofNat 0)))])) rfl rfl rfl rfl hlen rfl rfl rfl ((m1 _ (ov_hl hlen) (ov_at rfl (ov_lt hlen (by decide))) (ov_at rfl (ov_lt hlen (by decide)))).up (by omega)) rfl ?_
          refine RT_step (pc2 := 138) rfl (fun _ _ => rfl) ?_
          refine bcT_eq rfl (b01_f hd0) ?_
          refine RT_step (pc2 := 162) rfl (fun _ _ => rfl) ?_
          refine RT_step (pc2 := 163) rfl (fun _ _ => rfl) ?_
          refine ow_iv1 (l2 := ((180, mcl (Int32.ofNat 0) (Int32.ofNat 0) n lim a2 pl2 (km kd2) nm2 sg2 (Int32.ofNat 0) qm2 wd2 td (posb vs o)) :: (181, mtl ts) :: [(182, ia nw), (187, lng nz), (200, ia (((((li.set (4 * o) (Int32.ofNat 5)).set (4 * o + 1) (Int32.ofNat j0)).set (4 * o + 2) (Int32.ofNat 0)).set (4 * o + 3) (Int32.ofNat 0)).set (4 * o) (Int32.ofNat 3)))])) rfl rfl rfl rfl hlen rfl rfl rfl (hv2.up (by omega)) rfl ?_
          refine bcF_eq rfl (by decide) ?_
          exact hq _ rfl
      · subst cv
        have hk11 := w_k1 t1 (by decide)
        obtain ⟨T2, M2, c2, x2, m2⟩ := s_adv hB hM hb hn hl (po := (posb vs o)) (pl := pl1) (tk := tk) (td := td) (fp := fp1) (plM := qm1) t1 (by omega) (by omega)
        obtain ⟨a2, kd2, pl2, w2, le2, nu2, fp2, nm2, sg2, qm2, wd2, rfl, rfl, t2⟩ := c2
        obtain ⟨v1, v2, v3, v4, bx2, hadd⟩ := bx_add bx ho (Int32.ofNat 40) (Int32.ofNat j0) (Int32.ofNat 0) (Int32.ofNat 0)
        refine Or.inr ⟨ho, _, tk, td, tcl n lim a2 kd2 pl2 w2 le2 nu2 tk (Int32.ofNat 0) fp2, mcl (Int32.ofNat 0) (Int32.ofNat 0) n lim a2 pl2 (km kd2) nm2 sg2 (Int32.ofNat 0) qm2 wd2 td (posb vs o), v1, v2, v3, v4, (((((li.set (4 * o) (Int32.ofNat 5)).set (4 * o + 1) (Int32.ofNat j0)).set (4 * o + 2) (Int32.ofNat 0)).set (4 * o + 3) (Int32.ofNat 0)).set (4 * o) (Int32.ofNat 4)), tf_td t2, bx2, by simp only [List.length_set]; exact ln, fun H hlen => ?_, fun H dd q hlen hq => ?_⟩
        · have hz : FR 2 71 [.ref 1, .ref 4, .int (Int32.ofNat P)] (ov H ((1, tcl n lim a kd pl w le nu tk (Int32.ofNat 0) fp) :: (2, bcl bs) :: [(3, dcl3 P Dn lw cl id gl bo), (4, lng pn), (5, ia ri), (6, ia lf), (7, ia wa), (8, ia fo), (9, lng dn), (10, ia ha), (11, ia pa), (12, ia bl), (105, bkc o bv), (106, ia u1), (107, ia u2), (108, ia u3), (109, ia u4)])) (some (.int (Int32.ofNat j0)), ov (ov H ((1, tcl n lim a kd pl w le nu tk (Int32.ofNat 0) fp) :: (2, bcl bs) :: [(3, dcl3 P Dn lw cl id gl bo), (4, lng pn), (5, ia ri), (6, ia lf), (7, ia wa), (8, ia fo), (9, lng dn), (10, ia ha), (11, ia pa), (12, ia bl), (105, bkc o bv), (106, ia u1), (107, ia u2), (108, ia u3), (109, ia u4)])) [(1, tcl n lim a kd pl w le nu tk (Int32.ofNat 0) fp)]) := by
            refine FR_st2 (l2 := ((1, tcl n lim a kd pl w le nu tk (Int32.ofNat 0) fp) :: (2, bcl bs) :: [(3, dcl3 P Dn lw cl id gl bo), (4, lng pn), (5, ia ri), (6, ia lf), (7, ia wa), (8, ia fo), (9, lng dn), (10, ia ha), (11, ia pa), (12, ia bl), (105, bkc o bv), (106, ia u1), (107, ia u2), (108, ia u3), (109, ia u4)])) rfl rfl rfl ?_
            refine RT_step (pc2 := 1) rfl (fun _ _ => rfl) ?_
            refine ow_gf rfl rfl rfl hlen rfl ?_
            refine RT_step (pc2 := 7) rfl (fun _ _ => rfl) ?_
            refine rt_acE rfl (by omega) (by omega) ?_
            refine RT_if c ?_
            refine RT_step (pc2 := 19) rfl (fun _ _ => rfl) ?_
            refine RT_step (pc2 := 20) rfl (fun _ _ => rfl) ?_
            refine RT_step (pc2 := 21) rfl (fun _ _ => rfl) ?_
            refine ow_gf rfl rfl rfl hlen rfl ?_
            refine ow_is1 rfl rfl rfl rfl rfl ((x_find4 (ov_hl hlen) (ov_at rfl (ov_lt hlen (by decide))) (by omega) (by omega)).up (by decide)) rfl ?_
            rw [show fdI (fd pn le 0 P 0) = Int32.ofNat j0 from by rw [e0]; rfl]
            refine RT_step (pc2 := 28) rfl (fun _ _ => rfl) ?_
            refine RT_step (pc2 := 29) rfl (fun _ _ => rfl) ?_
            refine rt_ico rfl ki_m1 ?_
            refine biF_ne rfl (n_m1 (by omega)) ?_
            refine RT_step (pc2 := 40) rfl (fun _ _ => rfl) ?_
            exact ow_irt rfl rfl rfl
          have hy : FR 3 73 [.ref 3, .ref 1] (ov H ((1, tcl n lim a kd pl w le nu tk (Int32.ofNat 0) fp) :: (2, bcl bs) :: [(3, dcl3 P Dn lw cl id gl bo), (4, lng pn), (5, ia ri), (6, ia lf), (7, ia wa), (8, ia fo), (9, lng dn), (10, ia ha), (11, ia pa), (12, ia bl), (105, bkc o bv), (106, ia u1), (107, ia u2), (108, ia u3), (109, ia u4)])) (some (.int (Int32.ofNat j0)), ov (ov H ((1, tcl n lim a kd pl w le nu tk (Int32.ofNat 0) fp) :: (2, bcl bs) :: [(3, dcl3 P Dn lw cl id gl bo), (4, lng pn), (5, ia ri), (6, ia lf), (7, ia wa), (8, ia fo), (9, lng dn), (10, ia ha), (11, ia pa), (12, ia bl), (105, bkc o bv), (106, ia u1), (107, ia u2), (108, ia u3), (109, ia u4)])) [(1, tcl n lim a kd pl w le nu tk (Int32.ofNat 0) fp)]) := by
            refine FR_st2 (l2 := ((1, tcl n lim a kd pl w le nu tk (Int32.ofNat 0) fp) :: (2, bcl bs) :: [(3, dcl3 P Dn lw cl id gl bo), (4, lng pn), (5, ia ri), (6, ia lf), (7, ia wa), (8, ia fo), (9, lng dn), (10, ia ha), (11, ia pa), (12, ia bl), (105, bkc o bv), (106, ia u1), (107, ia u2), (108, ia u3), (109, ia u4)])) rfl rfl rfl ?_
            refine RT_step (pc2 := 1) rfl (fun _ _ => rfl) ?_
            refine RT_step (pc2 := 2) rfl (fun _ _ => rfl) ?_
            refine ow_gf rfl rfl rfl hlen rfl ?_
            refine RT_step (pc2 := 6) rfl (fun _ _ => rfl) ?_
            refine ow_gf rfl rfl rfl hlen rfl ?_
            refine ow_is1 (l2 := ((1, tcl n lim a kd pl w le nu tk (Int32.ofNat 0) fp) :: (2, bcl bs) :: [(3, dcl3 P Dn lw cl id gl bo), (4, lng pn), (5, ia ri), (6, ia lf), (7, ia wa), (8, ia fo), (9, lng dn), (10, ia ha), (11, ia pa), (12, ia bl), (105, bkc o bv), (106, ia u1), (107, ia u2), (108, ia u3), (109, ia u4)])) rfl rfl rfl rfl rfl (hz.up (by decide)) rfl ?_
            exact ow_irt rfl rfl rfl
          refine FR_st2 (l2 := ((1, tcl n lim a2 kd2 pl2 w2 le2 nu2 tk (Int32.ofNat 0) fp2) :: (2, bcl bs) :: [(3, dcl3 P Dn lw cl id gl bo), (4, lng pn), (5, ia ri), (6, ia lf), (7, ia wa), (8, ia fo), (9, lng dn), (10, ia ha), (11, ia pa), (12, ia bl), (105, bkc (o + 1) bv), (106, ia v1), (107, ia v2), (108, ia v3), (109, ia v4)])) rfl rfl rfl ?_
          refine RT_step (pc2 := 1) rfl (fun _ _ => rfl) ?_
          refine RT_step (pc2 := 2) rfl (fun _ _ => rfl) ?_
          refine ow_iv1 (l2 := ((1, tcl n lim a kd pl w le nu tk (Int32.ofNat 0) fp) :: (2, bcl bs) :: [(3, dcl3 P Dn lw cl id gl bo), (4, lng pn), (5, ia ri), (6, ia lf), (7, ia wa), (8, ia fo), (9, lng dn), (10, ia ha), (11, ia pa), (12, ia bl), (105, bkc o bv), (106, ia u1), (107, ia u2), (108, ia u3), (109, ia u4)])) rfl rfl rfl rfl hlen rfl rfl rfl (hy.up (by decide)) rfl ?_
          refine RT_step (pc2 := 6) rfl (fun _ _ => rfl) ?_
          refine RT_step (pc2 := 7) rfl (fun _ _ => rfl) ?_
          refine rt_ico rfl ki_m1 ?_
          refine biF_ne rfl (n_m1 (by omega)) ?_
          refine RT_step (pc2 := 14) rfl (fun _ _ => rfl) ?_
          refine ow_gf rfl rfl rfl hlen rfl ?_
          refine rt_bip rfl k8_40 ?_
          refine biT_lt rfl (n_lt (by omega) (by omega)) ?_
          refine RT_step (pc2 := 29) rfl (fun _ _ => rfl) ?_
          refine ow_iv0 (l2 := ((1, tcl n lim a1 kd1 pl1 15 le1 nu1 tk (Int32.ofNat 0) fp1) :: (2, bcl bs) :: [(3, dcl3 P Dn lw cl id gl bo), (4, lng pn), (5, ia ri), (6, ia lf), (7, ia wa), (8, ia fo), (9, lng dn), (10, ia ha), (11, ia pa), (12, ia bl), (105, bkc o bv), (106, ia u1), (107, ia u2), (108, ia u3), (109, ia u4)])) rfl rfl rfl rfl hlen rfl rfl rfl ((x1 _ (ov_hl hlen) (ov_at rfl (ov_lt hlen (by decide))) (ov_at rfl (ov_lt hlen (by decide)))).up (by decide)) rfl ?_
          refine RT_step (pc2 := 33) rfl (fun _ _ => rfl) ?_
          refine ow_gf rfl rfl rfl hlen rfl ?_
          refine RT_step (pc2 := 38) rfl (fun _ _ => rfl) ?_
          refine RT_step (pc2 := 41) rfl (fun _ _ => rfl) ?_
          refine RT_step (pc2 := 43) rfl (fun _ _ => rfl) ?_
          refine rt_ord rfl (by decide) rfl ?_
          refine rt_isw rfl (v := 12) (by decide +kernel) ?_
          refine RT_step (pc2 := 120) rfl (fun _ _ => rfl) ?_
          refine RT_step (pc2 := 121) rfl (fun _ _ => rfl) ?_
          refine rt_bip rfl k8_40 ?_
          refine RT_step (pc2 := 124) rfl (fun _ _ => rfl) ?_
          refine rt_ico rfl ki_0 ?_
          refine rt_ico rfl ki_0 ?_
          refine ow_iv0 (l2 := ((1, tcl n lim a1 kd1 pl1 15 le1 nu1 tk (Int32.ofNat 0) fp1) :: (2, bcl bs) :: [(3, dcl3 P Dn lw cl id gl bo), (4, lng pn), (5, ia ri), (6, ia lf), (7, ia wa), (8, ia fo), (9, lng dn), (10, ia ha), (11, ia pa), (12, ia bl), (105, bkc (o + 1) bv), (106, ia v1), (107, ia v2), (108, ia v3), (109, ia v4)])) rfl rfl rfl rfl hlen rfl rfl rfl ((hadd bv _ (ov_hl hlen) (ov_at rfl (ov_lt hlen (by decide))) (ov_at rfl (ov_lt hlen (by decide))) (ov_at rfl (ov_lt hlen (by decide))) (ov_at rfl (ov_lt hlen (by decide))) (ov_at rfl (ov_lt hlen (by decide)))).up (by decide)) rfl ?_
          refine RT_step (pc2 := 138) rfl (fun _ _ => rfl) ?_
          refine RT_step (pc2 := 139) rfl (fun _ _ => rfl) ?_
          refine ow_iv0 (l2 := ((1, tcl n lim a2 kd2 pl2 w2 le2 nu2 tk (Int32.ofNat 0) fp2) :: (2, bcl bs) :: [(3, dcl3 P Dn lw cl id gl bo), (4, lng pn), (5, ia ri), (6, ia lf), (7, ia wa), (8, ia fo), (9, lng dn), (10, ia ha), (11, ia pa), (12, ia bl), (105, bkc (o + 1) bv), (106, ia v1), (107, ia v2), (108, ia v3), (109, ia v4)])) rfl rfl rfl rfl hlen rfl rfl rfl ((x2 _ (ov_hl hlen) (ov_at rfl (ov_lt hlen (by decide))) (ov_at rfl (ov_lt hlen (by decide)))).up (by decide)) rfl ?_
          refine rt_ico rfl ki_1 ?_
          exact ow_irt rfl rfl rfl
        · have hv2 : FR 8 250 [.ref 180, .int (Int32.ofNat (4 * o))] (ov H ((180, mcl (Int32.ofNat 0) (Int32.ofNat 0) n lim a1 pl1 (km kd1) nm1 sg1 (Int32.ofNat 0) qm1 wd1 td (posb vs o)) :: (181, mtl ts) :: [(182, ia nw), (187, lng nz), (200, ia ((((li.set (4 * o) (Int32.ofNat 5)).set (4 * o + 1) (Int32.ofNat j0)).set (4 * o + 2) (Int32.ofNat 0)).set (4 * o + 3) (Int32.ofNat 0)))])) (some (.int (Int32.ofNat 1)), ov (ov H ((180, mcl (Int32.ofNat 0) (Int32.ofNat 0) n lim a1 pl1 (km kd1) nm1 sg1 (Int32.ofNat 0) qm1 wd1 td (posb vs o)) :: (181, mtl ts) :: [(182, ia nw), (187, lng nz), (200, ia ((((li.set (4 * o) (Int32.ofNat 5)).set (4 * o + 1) (Int32.ofNat j0)).set (4 * o + 2) (Int32.ofNat 0)).set (4 * o + 3) (Int32.ofNat 0)))])) [(180, mcl (Int32.ofNat 0) (Int32.ofNat 0) n lim a2 pl2 (km kd2) nm2 sg2 (Int32.ofNat 0) qm2 wd2 td (posb vs o)), (200, ia (((((li.set (4 * o) (Int32.ofNat 5)).set (4 * o + 1) (Int32.ofNat j0)).set (4 * o + 2) (Int32.ofNat 0)).set (4 * o + 3) (Int32.ofNat 0)).set (4 * o) (Int32.ofNat 4)))]) := by
            refine FR_st2 (l2 := ((180, mcl (Int32.ofNat 0) (Int32.ofNat 0) n lim a2 pl2 (km kd2) nm2 sg2 (Int32.ofNat 0) qm2 wd2 td (posb vs o)) :: (181, mtl ts) :: [(182, ia nw), (187, lng nz), (200, ia (((((li.set (4 * o) (Int32.ofNat 5)).set (4 * o + 1) (Int32.ofNat j0)).set (4 * o + 2) (Int32.ofNat 0)).set (4 * o + 3) (Int32.ofNat 0)).set (4 * o) (Int32.ofNat 4)))])) rfl rfl rfl ?_
            refine rt_bip rfl k8_8 ?_
            refine RT_step (pc2 := 3) rfl (fun _ _ => rfl) ?_
            refine m_vl (z := Int32.ofNat (4 * o)) hlen (km_is kd1 t1.2.2.2.1).2.2.2.2.2 5 8 _ rfl rfl rfl rfl (fun L2 l0 l1 lw => ?_)
            rw [wj_le t1 5 8 (by decide), jv] at lw
            refine rt_ild rfl lw ?_
            refine rt_bip rfl k8_12 ?_
            refine biT_le rfl (n_le (by decide) (by decide)) ?_
            refine rt_ald rfl l0 ?_
            refine ow_gf rfl rfl rfl hlen rfl ?_
            refine rt_ild rfl l1 ?_
            refine rt_ild rfl lw ?_
            refine rt_bip rfl k8_8 ?_
            refine ba_isub rfl ?_
            rw [show Int32.ofNat 12 - Int32.ofNat 8 = Int32.ofNat 4 from rfl]
            refine ow_iasN (l2 := ((180, mcl (Int32.ofNat 0) (Int32.ofNat 0) n lim a1 pl1 (km kd1) nm1 sg1 (Int32.ofNat 0) qm1 wd1 td (posb vs o)) :: (181, mtl ts) :: [(182, ia nw), (187, lng nz), (200, ia (((((li.set (4 * o) (Int32.ofNat 5)).set (4 * o + 1) (Int32.ofNat j0)).set (4 * o + 2) (Int32.ofNat 0)).set (4 * o + 3) (Int32.ofNat 0)).set (4 * o) (Int32.ofNat 4)))])) rfl rfl (by (try simp only [List.length_set]); omega) (by omega) hlen rfl rfl ?_
            refine rt_ald rfl l0 ?_
            refine ow_iv0 (l2 := ((180, mcl (Int32.ofNat 0) (Int32.ofNat 0) n lim a2 pl2 (km kd2) nm2 sg2 (Int32.ofNat 0) qm2 wd2 td (posb vs o)) :: (181, mtl ts) :: [(182, ia nw), (187, lng nz), (200, ia (((((li.set (4 * o) (Int32.ofNat 5)).set (4 * o + 1) (Int32.ofNat j0)).set (4 * o + 2) (Int32.ofNat 0)).set (4 * o + 3) (Int32.ofNat 0)).set (4 * o) (Int32.ofNat 4)))])) rfl rfl rfl rfl hlen rfl rfl rfl ((m2 _ (ov_hl hlen) (ov_at rfl (ov_lt hlen (by decide))) (ov_at rfl (ov_lt hlen (by decide)))).up (by omega)) rfl ?_
            refine rt_ald rfl l0 ?_
            refine ow_gf rfl rfl rfl hlen rfl ?_
            refine rt_ild rfl l1 ?_
            refine ow_ialN rfl rfl (List.getElem?_set_self (by simp only [List.length_set]; omega)) (by omega) hlen rfl ?_
            refine RT_step (pc2 := 141) rfl (fun _ _ => rfl) ?_
            refine rt_ico rfl ki_1 ?_
            exact ow_irt rfl rfl rfl
          refine RT_step (pc2 := 1) rfl (fun _ _ => rfl) ?_
          refine rt_bip rfl k8_16 ?_
          refine ow_iv1 (l2 := ((180, mcl (Int32.ofNat 0) (Int32.ofNat 0) n lim a pl (km kd) nm sg (Int32.ofNat 0) qm wd td (posb vs o)) :: (181, mtl ts) :: [(182, ia nw), (187, lng nz), (200, ia li)])) rfl rfl rfl rfl hlen rfl rfl rfl ((m_isWord (k := 16) (ov_hl hlen) (ov_at rfl (ov_lt hlen (by decide))) (km_is kd t.2.2.2.1).2.2.2.2.2 (by decide)).up (by omega)) rfl ?_
          refine RT_step (pc2 := 7) rfl (fun _ _ => rfl) ?_
          refine RT_step (pc2 := 8) rfl (fun _ _ => rfl) ?_
          refine bcT_ne rfl (b01_f hd0) ?_
          refine RT_step (pc2 := 12) rfl (fun _ _ => rfl) ?_
          refine ow_iv1 (l2 := ((180, mcl (Int32.ofNat 0) (Int32.ofNat 0) n lim a pl (km kd) nm sg (Int32.ofNat 0) qm wd td (posb vs o)) :: (181, mtl ts) :: [(182, ia nw), (187, lng nz), (200, ia li)])) rfl rfl rfl rfl hlen rfl rfl rfl ((m_isName (ov_hl hlen) (ov_at rfl (ov_lt hlen (by decide))) (km_is kd t.2.2.2.1).2.2.2.2.2).up (by omega)) rfl ?_
          refine bcF_ne rfl (b01_t hnm) ?_
          refine RT_step (pc2 := 25) rfl (fun _ _ => rfl) ?_
          refine ow_gf rfl rfl rfl hlen rfl ?_
          refine rt_ico rfl ki_0 ?_
          refine RT_step (pc2 := 30) rfl (fun _ _ => rfl) ?_
          refine ow_gf rfl rfl rfl hlen rfl ?_
          refine rt_ico rfl ki_0 ?_
          refine ow_ialN rfl rfl hv (by omega) hlen rfl ?_
          refine RT_step (pc2 := 36) rfl (fun _ _ => rfl) ?_
          refine ow_gf rfl rfl rfl hlen rfl ?_
          refine ow_is1 (l2 := ((180, mcl (Int32.ofNat 0) (Int32.ofNat 0) n lim a pl (km kd) nm sg (Int32.ofNat 0) qm wd td (posb vs o)) :: (181, mtl ts) :: [(182, ia nw), (187, lng nz), (200, ia li)])) rfl rfl rfl rfl rfl ((m_find7 (bs0 := 0) (cnt := P) (ov_hl hlen) (ov_at rfl (ov_lt hlen (by decide))) (by omega) (by omega)).up (by omega)) rfl ?_
          rw [show fdI (fd nz wd 0 P 0) = Int32.ofNat j0 from by rw [g0]; rfl]
          refine rt_ico rfl ki_m1 ?_
          refine biF_ne rfl (n_m1 (by omega)) ?_
          refine RT_step (pc2 := 53) rfl (fun _ _ => rfl) ?_
          refine ow_gf rfl rfl rfl hlen rfl ?_
          refine rt_bip rfl k8_40 ?_
          refine biF_ne rfl (n_ne co (by omega) (by omega)) ?_
          refine rt_ico rfl ki_4 ?_
          refine RT_step (pc2 := 69) rfl (fun _ _ => rfl) ?_
          refine ow_gf rfl rfl rfl hlen rfl ?_
          refine ba_imul rfl ?_
          rw [nmul4]
          refine RT_step (pc2 := 74) rfl (fun _ _ => rfl) ?_
          refine RT_step (pc2 := 75) rfl (fun _ _ => rfl) ?_
          refine ow_gf rfl rfl rfl hlen rfl ?_
          refine RT_step (pc2 := 79) rfl (fun _ _ => rfl) ?_
          refine rt_ico rfl ki_5 ?_
          refine ow_iasN (l2 := ((180, mcl (Int32.ofNat 0) (Int32.ofNat 0) n lim a pl (km kd) nm sg (Int32.ofNat 0) qm wd td (posb vs o)) :: (181, mtl ts) :: [(182, ia nw), (187, lng nz), (200, ia (li.set (4 * o) (Int32.ofNat 5)))])) rfl rfl (by (try simp only [List.length_set]); omega) (by omega) hlen rfl rfl ?_
          refine RT_step (pc2 := 82) rfl (fun _ _ => rfl) ?_
          refine ow_gf rfl rfl rfl hlen rfl ?_
          refine RT_step (pc2 := 86) rfl (fun _ _ => rfl) ?_
          refine rt_ico rfl ki_1 ?_
          refine ba_iadd rfl ?_
          rw [n_add]
          refine RT_step (pc2 := 89) rfl (fun _ _ => rfl) ?_
          refine bcT_eq rfl (b01_f hd0) ?_
          refine RT_step (pc2 := 97) rfl (fun _ _ => rfl) ?_
          refine ow_gf rfl rfl rfl hlen rfl ?_
          refine rt_ico rfl ki_0 ?_
          refine RT_step (pc2 := 102) rfl (fun _ _ => rfl) ?_
          refine ow_gf rfl rfl rfl hlen rfl ?_
          refine rt_ico rfl ki_0 ?_
          refine ow_ialN rfl rfl hv (by omega) hlen rfl ?_
          refine RT_step (pc2 := 108) rfl (fun _ _ => rfl) ?_
          refine ow_gf rfl rfl rfl hlen rfl ?_
          refine ow_is1 (l2 := ((180, mcl (Int32.ofNat 0) (Int32.ofNat 0) n lim a pl (km kd) nm sg (Int32.ofNat 0) qm wd td (posb vs o)) :: (181, mtl ts) :: [(182, ia nw), (187, lng nz), (200, ia (li.set (4 * o) (Int32.ofNat 5)))])) rfl rfl rfl rfl rfl ((m_find7 (bs0 := 0) (cnt := P) (ov_hl hlen) (ov_at rfl (ov_lt hlen (by decide))) (by omega) (by omega)).up (by omega)) rfl ?_
          rw [show fdI (fd nz wd 0 P 0) = Int32.ofNat j0 from by rw [g0]; rfl]
          refine ow_iasN (l2 := ((180, mcl (Int32.ofNat 0) (Int32.ofNat 0) n lim a pl (km kd) nm sg (Int32.ofNat 0) qm wd td (posb vs o)) :: (181, mtl ts) :: [(182, ia nw), (187, lng nz), (200, ia ((li.set (4 * o) (Int32.ofNat 5)).set (4 * o + 1) (Int32.ofNat j0)))])) rfl rfl (by (try simp only [List.length_set]); omega) (by omega) hlen rfl rfl ?_
          refine RT_step (pc2 := 116) rfl (fun _ _ => rfl) ?_
          refine ow_gf rfl rfl rfl hlen rfl ?_
          refine RT_step (pc2 := 120) rfl (fun _ _ => rfl) ?_
          refine rt_ico rfl ki_2 ?_
          refine ba_iadd rfl ?_
          rw [n_add]
          refine rt_ico rfl ki_0 ?_
          refine ow_iasN (l2 := ((180, mcl (Int32.ofNat 0) (Int32.ofNat 0) n lim a pl (km kd) nm sg (Int32.ofNat 0) qm wd td (posb vs o)) :: (181, mtl ts) :: [(182, ia nw), (187, lng nz), (200, ia (((li.set (4 * o) (Int32.ofNat 5)).set (4 * o + 1) (Int32.ofNat j0)).set (4 * o + 2) (Int32.ofNat 0)))])) rfl rfl (by (try simp only [List.length_set]); omega) (by omega) hlen rfl rfl ?_
          refine RT_step (pc2 := 125) rfl (fun _ _ => rfl) ?_
          refine ow_gf rfl rfl rfl hlen rfl ?_
          refine RT_step (pc2 := 129) rfl (fun _ _ => rfl) ?_
          refine rt_ico rfl ki_3 ?_
          refine ba_iadd rfl ?_
          rw [n_add]
          refine rt_ico rfl ki_0 ?_
          refine ow_iasN (l2 := ((180, mcl (Int32.ofNat 0) (Int32.ofNat 0) n lim a pl (km kd) nm sg (Int32.ofNat 0) qm wd td (posb vs o)) :: (181, mtl ts) :: [(182, ia nw), (187, lng nz), (200, ia ((((li.set (4 * o) (Int32.ofNat 5)).set (4 * o + 1) (Int32.ofNat j0)).set (4 * o + 2) (Int32.ofNat 0)).set (4 * o + 3) (Int32.ofNat 0)))])) rfl rfl (by (try simp only [List.length_set]); omega) (by omega) hlen rfl rfl ?_
          refine RT_step (pc2 := 134) rfl (fun _ _ => rfl) ?_
          refine ow_iv0 (l2 := ((180, mcl (Int32.ofNat 0) (Int32.ofNat 0) n lim a1 pl1 (km kd1) nm1 sg1 (Int32.ofNat 0) qm1 wd1 td (posb vs o)) :: (181, mtl ts) :: [(182, ia nw), (187, lng nz), (200, ia ((((li.set (4 * o) (Int32.ofNat 5)).set (4 * o + 1) (Int32.ofNat j0)).set (4 * o + 2) (Int32.ofNat 0)).set (4 * o + 3) (Int32.ofNat 0)))])) rfl rfl rfl rfl hlen rfl rfl rfl ((m1 _ (ov_hl hlen) (ov_at rfl (ov_lt hlen (by decide))) (ov_at rfl (ov_lt hlen (by decide)))).up (by omega)) rfl ?_
          refine RT_step (pc2 := 138) rfl (fun _ _ => rfl) ?_
          refine bcT_eq rfl (b01_f hd0) ?_
          refine RT_step (pc2 := 162) rfl (fun _ _ => rfl) ?_
          refine RT_step (pc2 := 163) rfl (fun _ _ => rfl) ?_
          refine ow_iv1 (l2 := ((180, mcl (Int32.ofNat 0) (Int32.ofNat 0) n lim a2 pl2 (km kd2) nm2 sg2 (Int32.ofNat 0) qm2 wd2 td (posb vs o)) :: (181, mtl ts) :: [(182, ia nw), (187, lng nz), (200, ia (((((li.set (4 * o) (Int32.ofNat 5)).set (4 * o + 1) (Int32.ofNat j0)).set (4 * o + 2) (Int32.ofNat 0)).set (4 * o + 3) (Int32.ofNat 0)).set (4 * o) (Int32.ofNat 4)))])) rfl rfl rfl rfl hlen rfl rfl rfl (hv2.up (by omega)) rfl ?_
          refine bcF_eq rfl (by decide) ?_
          exact hq _ rfl
    | none =>
      have g0 := q0.symm.trans e0
      obtain ⟨T, M, f, hx, hm⟩ := s_ref (bs := bs) (ts := ts) (lim := lim) (po := (posb vs o)) (pl := pl) (tk := tk) (td := td) (fp := fp) (plM := qm) t (kk := 3) (by decide) (by decide) (Or.inl (by omega))
      refine Or.inl ⟨T, M, li, f, ln, fun H hlen => ?_, fun H hlen => ?_⟩
      · have hz : FR 2 71 [.ref 1, .ref 4, .int (Int32.ofNat P)] (ov H ((1, tcl n lim a kd pl w le nu tk (Int32.ofNat 0) fp) :: (2, bcl bs) :: [(3, dcl3 P Dn lw cl id gl bo), (4, lng pn), (5, ia ri), (6, ia lf), (7, ia wa), (8, ia fo), (9, lng dn), (10, ia ha), (11, ia pa), (12, ia bl), (105, bkc o bv), (106, ia u1), (107, ia u2), (108, ia u3), (109, ia u4)])) (some (.int (-1 : Int32)), ov (ov H ((1, tcl n lim a kd pl w le nu tk (Int32.ofNat 0) fp) :: (2, bcl bs) :: [(3, dcl3 P Dn lw cl id gl bo), (4, lng pn), (5, ia ri), (6, ia lf), (7, ia wa), (8, ia fo), (9, lng dn), (10, ia ha), (11, ia pa), (12, ia bl), (105, bkc o bv), (106, ia u1), (107, ia u2), (108, ia u3), (109, ia u4)])) [(1, T)]) := by
          refine FR_st2 (l2 := ((1, T) :: (2, bcl bs) :: [(3, dcl3 P Dn lw cl id gl bo), (4, lng pn), (5, ia ri), (6, ia lf), (7, ia wa), (8, ia fo), (9, lng dn), (10, ia ha), (11, ia pa), (12, ia bl), (105, bkc o bv), (106, ia u1), (107, ia u2), (108, ia u3), (109, ia u4)])) rfl rfl rfl ?_
          refine RT_step (pc2 := 1) rfl (fun _ _ => rfl) ?_
          refine ow_gf rfl rfl rfl hlen rfl ?_
          refine RT_step (pc2 := 7) rfl (fun _ _ => rfl) ?_
          refine rt_acE rfl (by omega) (by omega) ?_
          refine RT_if c ?_
          refine RT_step (pc2 := 19) rfl (fun _ _ => rfl) ?_
          refine RT_step (pc2 := 20) rfl (fun _ _ => rfl) ?_
          refine RT_step (pc2 := 21) rfl (fun _ _ => rfl) ?_
          refine ow_gf rfl rfl rfl hlen rfl ?_
          refine ow_is1 rfl rfl rfl rfl rfl ((x_find4 (ov_hl hlen) (ov_at rfl (ov_lt hlen (by decide))) (by omega) (by omega)).up (by decide)) rfl ?_
          rw [show fdI (fd pn le 0 P 0) = (-1 : Int32) from by rw [e0]; rfl]
          refine RT_step (pc2 := 28) rfl (fun _ _ => rfl) ?_
          refine RT_step (pc2 := 29) rfl (fun _ _ => rfl) ?_
          refine rt_ico rfl ki_m1 ?_
          refine biT_ne rfl rfl ?_
          refine RT_step (pc2 := 34) rfl (fun _ _ => rfl) ?_
          refine rt_ico rfl ki_3 ?_
          refine ow_iv1 rfl rfl rfl rfl hlen rfl rfl rfl ((hx _ (ov_hl hlen) (ov_at rfl (ov_lt hlen (by decide))) (ov_at rfl (ov_lt hlen (by decide)))).up (by decide)) rfl ?_
          refine RT_step (pc2 := 39) rfl (fun _ _ => rfl) ?_
          refine RT_step (pc2 := 40) rfl (fun _ _ => rfl) ?_
          exact ow_irt rfl rfl rfl
        have hy : FR 3 73 [.ref 3, .ref 1] (ov H ((1, tcl n lim a kd pl w le nu tk (Int32.ofNat 0) fp) :: (2, bcl bs) :: [(3, dcl3 P Dn lw cl id gl bo), (4, lng pn), (5, ia ri), (6, ia lf), (7, ia wa), (8, ia fo), (9, lng dn), (10, ia ha), (11, ia pa), (12, ia bl), (105, bkc o bv), (106, ia u1), (107, ia u2), (108, ia u3), (109, ia u4)])) (some (.int (-1 : Int32)), ov (ov H ((1, tcl n lim a kd pl w le nu tk (Int32.ofNat 0) fp) :: (2, bcl bs) :: [(3, dcl3 P Dn lw cl id gl bo), (4, lng pn), (5, ia ri), (6, ia lf), (7, ia wa), (8, ia fo), (9, lng dn), (10, ia ha), (11, ia pa), (12, ia bl), (105, bkc o bv), (106, ia u1), (107, ia u2), (108, ia u3), (109, ia u4)])) [(1, T)]) := by
          refine FR_st2 (l2 := ((1, T) :: (2, bcl bs) :: [(3, dcl3 P Dn lw cl id gl bo), (4, lng pn), (5, ia ri), (6, ia lf), (7, ia wa), (8, ia fo), (9, lng dn), (10, ia ha), (11, ia pa), (12, ia bl), (105, bkc o bv), (106, ia u1), (107, ia u2), (108, ia u3), (109, ia u4)])) rfl rfl rfl ?_
          refine RT_step (pc2 := 1) rfl (fun _ _ => rfl) ?_
          refine RT_step (pc2 := 2) rfl (fun _ _ => rfl) ?_
          refine ow_gf rfl rfl rfl hlen rfl ?_
          refine RT_step (pc2 := 6) rfl (fun _ _ => rfl) ?_
          refine ow_gf rfl rfl rfl hlen rfl ?_
          refine ow_is1 (l2 := ((1, T) :: (2, bcl bs) :: [(3, dcl3 P Dn lw cl id gl bo), (4, lng pn), (5, ia ri), (6, ia lf), (7, ia wa), (8, ia fo), (9, lng dn), (10, ia ha), (11, ia pa), (12, ia bl), (105, bkc o bv), (106, ia u1), (107, ia u2), (108, ia u3), (109, ia u4)])) rfl rfl rfl rfl rfl (hz.up (by decide)) rfl ?_
          exact ow_irt rfl rfl rfl
        refine FR_st2 (l2 := ((1, T) :: (2, bcl bs) :: [(3, dcl3 P Dn lw cl id gl bo), (4, lng pn), (5, ia ri), (6, ia lf), (7, ia wa), (8, ia fo), (9, lng dn), (10, ia ha), (11, ia pa), (12, ia bl), (105, bkc o bv), (106, ia u1), (107, ia u2), (108, ia u3), (109, ia u4)])) rfl rfl rfl ?_
        refine RT_step (pc2 := 1) rfl (fun _ _ => rfl) ?_
        refine RT_step (pc2 := 2) rfl (fun _ _ => rfl) ?_
        refine ow_iv1 (l2 := ((1, T) :: (2, bcl bs) :: [(3, dcl3 P Dn lw cl id gl bo), (4, lng pn), (5, ia ri), (6, ia lf), (7, ia wa), (8, ia fo), (9, lng dn), (10, ia ha), (11, ia pa), (12, ia bl), (105, bkc o bv), (106, ia u1), (107, ia u2), (108, ia u3), (109, ia u4)])) rfl rfl rfl rfl hlen rfl rfl rfl (hy.up (by decide)) rfl ?_
        refine RT_step (pc2 := 6) rfl (fun _ _ => rfl) ?_
        refine RT_step (pc2 := 7) rfl (fun _ _ => rfl) ?_
        refine rt_ico rfl ki_m1 ?_
        refine biT_ne rfl rfl ?_
        refine rt_ico rfl ki_0 ?_
        exact ow_irt rfl rfl rfl
      · refine FR_st2 (l2 := ((180, M) :: (181, mtl ts) :: [(182, ia nw), (187, lng nz), (200, ia li)])) rfl rfl rfl ?_
        refine RT_step (pc2 := 1) rfl (fun _ _ => rfl) ?_
        refine rt_bip rfl k8_16 ?_
        refine ow_iv1 (l2 := ((180, mcl (Int32.ofNat 0) (Int32.ofNat 0) n lim a pl (km kd) nm sg (Int32.ofNat 0) qm wd td (posb vs o)) :: (181, mtl ts) :: [(182, ia nw), (187, lng nz), (200, ia li)])) rfl rfl rfl rfl hlen rfl rfl rfl ((m_isWord (k := 16) (ov_hl hlen) (ov_at rfl (ov_lt hlen (by decide))) (km_is kd t.2.2.2.1).2.2.2.2.2 (by decide)).up (by omega)) rfl ?_
        refine RT_step (pc2 := 7) rfl (fun _ _ => rfl) ?_
        refine RT_step (pc2 := 8) rfl (fun _ _ => rfl) ?_
        refine bcT_ne rfl (b01_f hd0) ?_
        refine RT_step (pc2 := 12) rfl (fun _ _ => rfl) ?_
        refine ow_iv1 (l2 := ((180, mcl (Int32.ofNat 0) (Int32.ofNat 0) n lim a pl (km kd) nm sg (Int32.ofNat 0) qm wd td (posb vs o)) :: (181, mtl ts) :: [(182, ia nw), (187, lng nz), (200, ia li)])) rfl rfl rfl rfl hlen rfl rfl rfl ((m_isName (ov_hl hlen) (ov_at rfl (ov_lt hlen (by decide))) (km_is kd t.2.2.2.1).2.2.2.2.2).up (by omega)) rfl ?_
        refine bcF_ne rfl (b01_t hnm) ?_
        refine RT_step (pc2 := 25) rfl (fun _ _ => rfl) ?_
        refine ow_gf rfl rfl rfl hlen rfl ?_
        refine rt_ico rfl ki_0 ?_
        refine RT_step (pc2 := 30) rfl (fun _ _ => rfl) ?_
        refine ow_gf rfl rfl rfl hlen rfl ?_
        refine rt_ico rfl ki_0 ?_
        refine ow_ialN rfl rfl hv (by omega) hlen rfl ?_
        refine RT_step (pc2 := 36) rfl (fun _ _ => rfl) ?_
        refine ow_gf rfl rfl rfl hlen rfl ?_
        refine ow_is1 (l2 := ((180, mcl (Int32.ofNat 0) (Int32.ofNat 0) n lim a pl (km kd) nm sg (Int32.ofNat 0) qm wd td (posb vs o)) :: (181, mtl ts) :: [(182, ia nw), (187, lng nz), (200, ia li)])) rfl rfl rfl rfl rfl ((m_find7 (bs0 := 0) (cnt := P) (ov_hl hlen) (ov_at rfl (ov_lt hlen (by decide))) (by omega) (by omega)).up (by omega)) rfl ?_
        rw [show fdI (fd nz wd 0 P 0) = (-1 : Int32) from by rw [g0]; rfl]
        refine rt_ico rfl ki_m1 ?_
        refine biT_ne rfl rfl ?_
        refine RT_step (pc2 := 47) rfl (fun _ _ => rfl) ?_
        refine rt_ico rfl ki_3 ?_
        refine ow_iv1 (l2 := ((180, M) :: (181, mtl ts) :: [(182, ia nw), (187, lng nz), (200, ia li)])) rfl rfl rfl rfl hlen rfl rfl rfl ((hm _ (ov_hl hlen) (ov_at rfl (ov_lt hlen (by decide))) (ov_at rfl (ov_lt hlen (by decide)))).up (by omega)) rfl ?_
        exact ow_irt rfl rfl rfl
  · have hnm : (Nat.beq (km kd) 2 && nmB wd 30 0) = false := by rw [w_nm t]; exact decide_eq_false c
    obtain ⟨T, M, f, hx, hm⟩ := s_ref (bs := bs) (ts := ts) (lim := lim) (po := (posb vs o)) (pl := pl) (tk := tk) (td := td) (fp := fp) (plM := qm) t (kk := 1) (by decide) (by decide) (Or.inr rfl)
    refine Or.inl ⟨T, M, li, f, ln, fun H hlen => ?_, fun H hlen => ?_⟩
    · have hz : FR 2 71 [.ref 1, .ref 4, .int (Int32.ofNat P)] (ov H ((1, tcl n lim a kd pl w le nu tk (Int32.ofNat 0) fp) :: (2, bcl bs) :: [(3, dcl3 P Dn lw cl id gl bo), (4, lng pn), (5, ia ri), (6, ia lf), (7, ia wa), (8, ia fo), (9, lng dn), (10, ia ha), (11, ia pa), (12, ia bl), (105, bkc o bv), (106, ia u1), (107, ia u2), (108, ia u3), (109, ia u4)])) (some (.int (-1 : Int32)), ov (ov H ((1, tcl n lim a kd pl w le nu tk (Int32.ofNat 0) fp) :: (2, bcl bs) :: [(3, dcl3 P Dn lw cl id gl bo), (4, lng pn), (5, ia ri), (6, ia lf), (7, ia wa), (8, ia fo), (9, lng dn), (10, ia ha), (11, ia pa), (12, ia bl), (105, bkc o bv), (106, ia u1), (107, ia u2), (108, ia u3), (109, ia u4)])) [(1, T)]) := by
        refine FR_st2 (l2 := ((1, T) :: (2, bcl bs) :: [(3, dcl3 P Dn lw cl id gl bo), (4, lng pn), (5, ia ri), (6, ia lf), (7, ia wa), (8, ia fo), (9, lng dn), (10, ia ha), (11, ia pa), (12, ia bl), (105, bkc o bv), (106, ia u1), (107, ia u2), (108, ia u3), (109, ia u4)])) rfl rfl rfl ?_
        refine RT_step (pc2 := 1) rfl (fun _ _ => rfl) ?_
        refine ow_gf rfl rfl rfl hlen rfl ?_
        refine RT_step (pc2 := 7) rfl (fun _ _ => rfl) ?_
        refine rt_acE rfl (by omega) (by omega) ?_
        refine RT_el c ?_
        refine RT_step (pc2 := 11) rfl (fun _ _ => rfl) ?_
        refine rt_ico rfl ki_1 ?_
        refine ow_iv1 rfl rfl rfl rfl hlen rfl rfl rfl ((hx _ (ov_hl hlen) (ov_at rfl (ov_lt hlen (by decide))) (ov_at rfl (ov_lt hlen (by decide)))).up (by decide)) rfl ?_
        refine RT_step (pc2 := 16) rfl (fun _ _ => rfl) ?_
        refine rt_ico rfl ki_m1 ?_
        exact ow_irt rfl rfl rfl
      have hy : FR 3 73 [.ref 3, .ref 1] (ov H ((1, tcl n lim a kd pl w le nu tk (Int32.ofNat 0) fp) :: (2, bcl bs) :: [(3, dcl3 P Dn lw cl id gl bo), (4, lng pn), (5, ia ri), (6, ia lf), (7, ia wa), (8, ia fo), (9, lng dn), (10, ia ha), (11, ia pa), (12, ia bl), (105, bkc o bv), (106, ia u1), (107, ia u2), (108, ia u3), (109, ia u4)])) (some (.int (-1 : Int32)), ov (ov H ((1, tcl n lim a kd pl w le nu tk (Int32.ofNat 0) fp) :: (2, bcl bs) :: [(3, dcl3 P Dn lw cl id gl bo), (4, lng pn), (5, ia ri), (6, ia lf), (7, ia wa), (8, ia fo), (9, lng dn), (10, ia ha), (11, ia pa), (12, ia bl), (105, bkc o bv), (106, ia u1), (107, ia u2), (108, ia u3), (109, ia u4)])) [(1, T)]) := by
        refine FR_st2 (l2 := ((1, T) :: (2, bcl bs) :: [(3, dcl3 P Dn lw cl id gl bo), (4, lng pn), (5, ia ri), (6, ia lf), (7, ia wa), (8, ia fo), (9, lng dn), (10, ia ha), (11, ia pa), (12, ia bl), (105, bkc o bv), (106, ia u1), (107, ia u2), (108, ia u3), (109, ia u4)])) rfl rfl rfl ?_
        refine RT_step (pc2 := 1) rfl (fun _ _ => rfl) ?_
        refine RT_step (pc2 := 2) rfl (fun _ _ => rfl) ?_
        refine ow_gf rfl rfl rfl hlen rfl ?_
        refine RT_step (pc2 := 6) rfl (fun _ _ => rfl) ?_
        refine ow_gf rfl rfl rfl hlen rfl ?_
        refine ow_is1 (l2 := ((1, T) :: (2, bcl bs) :: [(3, dcl3 P Dn lw cl id gl bo), (4, lng pn), (5, ia ri), (6, ia lf), (7, ia wa), (8, ia fo), (9, lng dn), (10, ia ha), (11, ia pa), (12, ia bl), (105, bkc o bv), (106, ia u1), (107, ia u2), (108, ia u3), (109, ia u4)])) rfl rfl rfl rfl rfl (hz.up (by decide)) rfl ?_
        exact ow_irt rfl rfl rfl
      refine FR_st2 (l2 := ((1, T) :: (2, bcl bs) :: [(3, dcl3 P Dn lw cl id gl bo), (4, lng pn), (5, ia ri), (6, ia lf), (7, ia wa), (8, ia fo), (9, lng dn), (10, ia ha), (11, ia pa), (12, ia bl), (105, bkc o bv), (106, ia u1), (107, ia u2), (108, ia u3), (109, ia u4)])) rfl rfl rfl ?_
      refine RT_step (pc2 := 1) rfl (fun _ _ => rfl) ?_
      refine RT_step (pc2 := 2) rfl (fun _ _ => rfl) ?_
      refine ow_iv1 (l2 := ((1, T) :: (2, bcl bs) :: [(3, dcl3 P Dn lw cl id gl bo), (4, lng pn), (5, ia ri), (6, ia lf), (7, ia wa), (8, ia fo), (9, lng dn), (10, ia ha), (11, ia pa), (12, ia bl), (105, bkc o bv), (106, ia u1), (107, ia u2), (108, ia u3), (109, ia u4)])) rfl rfl rfl rfl hlen rfl rfl rfl (hy.up (by decide)) rfl ?_
      refine RT_step (pc2 := 6) rfl (fun _ _ => rfl) ?_
      refine RT_step (pc2 := 7) rfl (fun _ _ => rfl) ?_
      refine rt_ico rfl ki_m1 ?_
      refine biT_ne rfl rfl ?_
      refine rt_ico rfl ki_0 ?_
      exact ow_irt rfl rfl rfl
    · refine FR_st2 (l2 := ((180, M) :: (181, mtl ts) :: [(182, ia nw), (187, lng nz), (200, ia li)])) rfl rfl rfl ?_
      refine RT_step (pc2 := 1) rfl (fun _ _ => rfl) ?_
      refine rt_bip rfl k8_16 ?_
      refine ow_iv1 (l2 := ((180, mcl (Int32.ofNat 0) (Int32.ofNat 0) n lim a pl (km kd) nm sg (Int32.ofNat 0) qm wd td (posb vs o)) :: (181, mtl ts) :: [(182, ia nw), (187, lng nz), (200, ia li)])) rfl rfl rfl rfl hlen rfl rfl rfl ((m_isWord (k := 16) (ov_hl hlen) (ov_at rfl (ov_lt hlen (by decide))) (km_is kd t.2.2.2.1).2.2.2.2.2 (by decide)).up (by omega)) rfl ?_
      refine RT_step (pc2 := 7) rfl (fun _ _ => rfl) ?_
      refine RT_step (pc2 := 8) rfl (fun _ _ => rfl) ?_
      refine bcT_ne rfl (b01_f hd0) ?_
      refine RT_step (pc2 := 12) rfl (fun _ _ => rfl) ?_
      refine ow_iv1 (l2 := ((180, mcl (Int32.ofNat 0) (Int32.ofNat 0) n lim a pl (km kd) nm sg (Int32.ofNat 0) qm wd td (posb vs o)) :: (181, mtl ts) :: [(182, ia nw), (187, lng nz), (200, ia li)])) rfl rfl rfl rfl hlen rfl rfl rfl ((m_isName (ov_hl hlen) (ov_at rfl (ov_lt hlen (by decide))) (km_is kd t.2.2.2.1).2.2.2.2.2).up (by omega)) rfl ?_
      refine bcT_ne rfl (b01_f hnm) ?_
      refine RT_step (pc2 := 19) rfl (fun _ _ => rfl) ?_
      refine rt_ico rfl ki_1 ?_
      refine ow_iv1 (l2 := ((180, M) :: (181, mtl ts) :: [(182, ia nw), (187, lng nz), (200, ia li)])) rfl rfl rfl rfl hlen rfl rfl rfl ((hm _ (ov_hl hlen) (ov_at rfl (ov_lt hlen (by decide))) (ov_at rfl (ov_lt hlen (by decide)))).up (by omega)) rfl ?_
      exact ow_irt rfl rfl rfl
theorem b_day3 {B : Nat → Nat} {bs ts : List Int32} {vs : Nat → Value} {bv : Nat → Int32} {n lim : Nat} {k a kd pl w : Nat} {le : Int64} {nu tk td fp nm sg qm : Int32} {wd : Int64} {o : Nat} {u1 u2 u3 u4 nw li : List Int32} {nz : List Int64} {P : Nat} {Dn : Nat} {lw : Int32} {cl : Int32} {id : Int32} {gl : Nat} {bo : Nat} {pn : List Int64} {ri : List Int32} {lf : List Int32} {wa : List Int32} {fo : List Int32} {dn : List Int64} {ha : List Int32} {pa : List Int32} {bl : List Int32} (hB : BY bs B) (hM : MY ts B) (hb : ∀ i, B i < 256) (hn : n ≤ 940) (hl : lim ≤ 940) (t : TF k n a kd w le nu nm sg wd) (hday : w = 16) (hP : P ≤ 7) (hDn : Dn ≤ 8) (lp : pn.length = 7) (ld : dn.length = 8) (lz : nz.length = 15) (hv : nw[0]? = some (Int32.ofNat P)) (hv1 : nw[1]? = some (Int32.ofNat Dn)) (hN : ∀ i, i < P → ∃ ss, nok ss ∧ pn[i]? = some (p5 ss) ∧ nz[0 + i]? = some (p27 ss)) (hN2 : ∀ i, i < Dn → ∃ ss, nok ss ∧ dn[i]? = some (p5 ss) ∧ nz[7 + i]? = some (p27 ss)) (bx : BX o u1 u2 u3 u4) (ln : li.length = 160) : (∃ (T M : AE) (li2 : List Int32), FC n lim (posb vs o) T M ∧ li2.length = 160 ∧ LSb 12 52 [.ref 105, .ref 1] 14 246 [.ref 180] ((1, tcl n lim a kd pl w le nu tk (Int32.ofNat 0) fp) :: (2, bcl bs) :: [(3, dcl3 P Dn lw cl id gl bo), (4, lng pn), (5, ia ri), (6, ia lf), (7, ia wa), (8, ia fo), (9, lng dn), (10, ia ha), (11, ia pa), (12, ia bl), (105, bkc o bv), (106, ia u1), (107, ia u2), (108, ia u3), (109, ia u4)]) ((180, mcl (Int32.ofNat 0) (Int32.ofNat 0) n lim a pl (km kd) nm sg (Int32.ofNat 0) qm wd td (posb vs o)) :: (181, mtl ts) :: [(182, ia nw), (187, lng nz), (200, ia li)]) (.int (Int32.ofNat 0)) (.int (Int32.ofNat 0)) [(1, T)] [(180, M), (200, ia li2)]) ∨ (o < 40 ∧ ∃ (k2 : Nat) (tk2 td2 : Int32) (T M : AE) (v1 v2 v3 v4 li2 : List Int32), TC n lim (posb vs o) k2 tk2 td2 T M ∧ BX (o + 1) v1 v2 v3 v4 ∧ li2.length = 160 ∧ (∀ H : List AE, Nat.ble 204 H.length = true → FR 12 52 [.ref 105, .ref 1] (ov H ((1, tcl n lim a kd pl w le nu tk (Int32.ofNat 0) fp) :: (2, bcl bs) :: [(3, dcl3 P Dn lw cl id gl bo), (4, lng pn), (5, ia ri), (6, ia lf), (7, ia wa), (8, ia fo), (9, lng dn), (10, ia ha), (11, ia pa), (12, ia bl), (105, bkc o bv), (106, ia u1), (107, ia u2), (108, ia u3), (109, ia u4)])) (some (.int (Int32.ofNat 1)), ov (ov H ((1, tcl n lim a kd pl w le nu tk (Int32.ofNat 0) fp) :: (2, bcl bs) :: [(3, dcl3 P Dn lw cl id gl bo), (4, lng pn), (5, ia ri), (6, ia lf), (7, ia wa), (8, ia fo), (9, lng dn), (10, ia ha), (11, ia pa), (12, ia bl), (105, bkc o bv), (106, ia u1), (107, ia u2), (108, ia u3), (109, ia u4)])) [(1, T), (105, bkc (o + 1) bv), (106, ia v1), (107, ia v2), (108, ia v3), (109, ia v4)])) ∧ ∀ (H : List AE) (dd : Nat) (q : ev_R), Nat.ble 204 H.length = true → (∀ L2, ev_g L2 0 = some (.ref 180) → RT MM (dd + 13) 246 169 L2 [] (ov H ((180, M) :: (181, mtl ts) :: [(182, ia nw), (187, lng nz), (200, ia li2)])) q) → RT MM (dd + 13) 246 0 (lv_args 0 [.ref 180]) [] (ov H ((180, mcl (Int32.ofNat 0) (Int32.ofNat 0) n lim a pl (km kd) nm sg (Int32.ofNat 0) qm wd td (posb vs o)) :: (181, mtl ts) :: [(182, ia nw), (187, lng nz), (200, ia li)])) q) := by
  have hd1 : isW (km kd) wd 16 = true := by
    rw [w_is t (by decide)]
    exact decide_eq_true hday
  have ho0 := bx.1
  have hk1 := w_k1 t (by omega)
  by_cases co : o = 40
  · obtain ⟨T, M, f, hx, hm⟩ := s_ref (bs := bs) (ts := ts) (lim := lim) (po := (posb vs o)) (pl := pl) (tk := tk) (td := td) (fp := fp) (plM := qm) t (kk := 4) (by decide) (by decide) (Or.inl (by omega))
    refine Or.inl ⟨T, M, li, f, ln, fun H hlen => ?_, fun H hlen => ?_⟩
    · refine FR_st2 (l2 := ((1, T) :: (2, bcl bs) :: [(3, dcl3 P Dn lw cl id gl bo), (4, lng pn), (5, ia ri), (6, ia lf), (7, ia wa), (8, ia fo), (9, lng dn), (10, ia ha), (11, ia pa), (12, ia bl), (105, bkc o bv), (106, ia u1), (107, ia u2), (108, ia u3), (109, ia u4)])) rfl rfl rfl ?_
      refine RT_step (pc2 := 1) rfl (fun _ _ => rfl) ?_
      refine ow_gf rfl rfl rfl hlen rfl ?_
      refine rt_bip rfl k8_40 ?_
      refine biF_lt rfl (n_nlt (by omega) (by omega)) ?_
      refine RT_step (pc2 := 10) rfl (fun _ _ => rfl) ?_
      refine rt_ico rfl ki_4 ?_
      refine ow_iv1 (l2 := ((1, T) :: (2, bcl bs) :: [(3, dcl3 P Dn lw cl id gl bo), (4, lng pn), (5, ia ri), (6, ia lf), (7, ia wa), (8, ia fo), (9, lng dn), (10, ia ha), (11, ia pa), (12, ia bl), (105, bkc o bv), (106, ia u1), (107, ia u2), (108, ia u3), (109, ia u4)])) rfl rfl rfl rfl hlen rfl rfl rfl ((hx _ (ov_hl hlen) (ov_at rfl (ov_lt hlen (by decide))) (ov_at rfl (ov_lt hlen (by decide)))).up (by decide)) rfl ?_
      exact ow_irt rfl rfl rfl
    · refine FR_st2 (l2 := ((180, M) :: (181, mtl ts) :: [(182, ia nw), (187, lng nz), (200, ia li)])) rfl rfl rfl ?_
      refine RT_step (pc2 := 1) rfl (fun _ _ => rfl) ?_
      refine rt_bip rfl k8_16 ?_
      refine ow_iv1 (l2 := ((180, mcl (Int32.ofNat 0) (Int32.ofNat 0) n lim a pl (km kd) nm sg (Int32.ofNat 0) qm wd td (posb vs o)) :: (181, mtl ts) :: [(182, ia nw), (187, lng nz), (200, ia li)])) rfl rfl rfl rfl hlen rfl rfl rfl ((m_isWord (k := 16) (ov_hl hlen) (ov_at rfl (ov_lt hlen (by decide))) (km_is kd t.2.2.2.1).2.2.2.2.2 (by decide)).up (by omega)) rfl ?_
      refine RT_step (pc2 := 7) rfl (fun _ _ => rfl) ?_
      refine RT_step (pc2 := 8) rfl (fun _ _ => rfl) ?_
      refine bcF_ne rfl (b01_t hd1) ?_
      refine RT_step (pc2 := 53) rfl (fun _ _ => rfl) ?_
      refine ow_gf rfl rfl rfl hlen rfl ?_
      refine rt_bip rfl k8_40 ?_
      refine biT_ne rfl (n_eq co) ?_
      refine RT_step (pc2 := 62) rfl (fun _ _ => rfl) ?_
      refine rt_ico rfl ki_4 ?_
      refine ow_iv1 (l2 := ((180, M) :: (181, mtl ts) :: [(182, ia nw), (187, lng nz), (200, ia li)])) rfl rfl rfl rfl hlen rfl rfl rfl ((hm _ (ov_hl hlen) (ov_at rfl (ov_lt hlen (by decide))) (ov_at rfl (ov_lt hlen (by decide)))).up (by omega)) rfl ?_
      exact ow_irt rfl rfl rfl
  · have ho : o < 40 := by omega
    obtain ⟨T1, M1, c1, x1, m1⟩ := s_adv hB hM hb hn hl (po := (posb vs o)) (pl := pl) (tk := tk) (td := td) (fp := fp) (plM := qm) t (by omega) (by omega)
    obtain ⟨a1, kd1, pl1, w1, le1, nu1, fp1, nm1, sg1, qm1, wd1, rfl, rfl, t1⟩ := c1
    rcases s_num hB hM hb hn hl (po := (posb vs o)) (pl := pl1) (tk := tk) (td := td) (fp := fp1) (plM := qm1) t1 (lo := 1) (hi := 60) (by decide) (by decide) with ⟨T, M, f, hx, hm⟩ | ⟨v, T3, M3, vv1, vv2, c3, hx, hm⟩
    · obtain ⟨a9, kd9, pl9, w9, le9, nu9, tk9, kk9, am9, fm9, kM9, nm9, sg9, fa9, qm9, wd9, td9, rfl, rfl, f9⟩ := f
      refine Or.inl ⟨tcl n lim a9 kd9 pl9 w9 le9 nu9 tk9 (Int32.ofNat kk9) (Int32.ofNat pl9), mcl (Int32.ofNat 0) (Int32.ofNat 0) n lim am9 fm9 kM9 nm9 sg9 fa9 qm9 wd9 td9 (posb vs o), ((((li.set (4 * o) (Int32.ofNat 5)).set (4 * o + 1) (Int32.ofNat 0)).set (4 * o + 2) (Int32.ofNat 0)).set (4 * o + 3) (Int32.ofNat 0)), ⟨a9, kd9, pl9, w9, le9, nu9, tk9, kk9, am9, fm9, kM9, nm9, sg9, fa9, qm9, wd9, td9, rfl, rfl, f9⟩, by simp only [List.length_set]; exact ln, fun H hlen => ?_, fun H hlen => ?_⟩
      · refine FR_st2 (l2 := ((1, tcl n lim a9 kd9 pl9 w9 le9 nu9 tk9 (Int32.ofNat kk9) (Int32.ofNat pl9)) :: (2, bcl bs) :: [(3, dcl3 P Dn lw cl id gl bo), (4, lng pn), (5, ia ri), (6, ia lf), (7, ia wa), (8, ia fo), (9, lng dn), (10, ia ha), (11, ia pa), (12, ia bl), (105, bkc o bv), (106, ia u1), (107, ia u2), (108, ia u3), (109, ia u4)])) rfl rfl rfl ?_
        refine RT_step (pc2 := 1) rfl (fun _ _ => rfl) ?_
        refine ow_gf rfl rfl rfl hlen rfl ?_
        refine rt_bip rfl k8_40 ?_
        refine biT_lt rfl (n_lt (by omega) (by omega)) ?_
        refine RT_step (pc2 := 16) rfl (fun _ _ => rfl) ?_
        refine ow_iv0 (l2 := ((1, tcl n lim a1 kd1 pl1 w1 le1 nu1 tk (Int32.ofNat 0) fp1) :: (2, bcl bs) :: [(3, dcl3 P Dn lw cl id gl bo), (4, lng pn), (5, ia ri), (6, ia lf), (7, ia wa), (8, ia fo), (9, lng dn), (10, ia ha), (11, ia pa), (12, ia bl), (105, bkc o bv), (106, ia u1), (107, ia u2), (108, ia u3), (109, ia u4)])) rfl rfl rfl rfl hlen rfl rfl rfl ((x1 _ (ov_hl hlen) (ov_at rfl (ov_lt hlen (by decide))) (ov_at rfl (ov_lt hlen (by decide)))).up (by decide)) rfl ?_
        refine RT_step (pc2 := 20) rfl (fun _ _ => rfl) ?_
        refine rt_ico rfl ki_1 ?_
        refine rt_bip rfl k8_60 ?_
        refine ow_iv1 (l2 := ((1, tcl n lim a9 kd9 pl9 w9 le9 nu9 tk9 (Int32.ofNat kk9) (Int32.ofNat pl9)) :: (2, bcl bs) :: [(3, dcl3 P Dn lw cl id gl bo), (4, lng pn), (5, ia ri), (6, ia lf), (7, ia wa), (8, ia fo), (9, lng dn), (10, ia ha), (11, ia pa), (12, ia bl), (105, bkc o bv), (106, ia u1), (107, ia u2), (108, ia u3), (109, ia u4)])) rfl rfl rfl rfl hlen rfl rfl rfl ((hx _ (ov_hl hlen) (ov_at rfl (ov_lt hlen (by decide))) (ov_at rfl (ov_lt hlen (by decide)))).up (by decide)) rfl ?_
        refine bcT_ne rfl rfl ?_
        refine rt_ico rfl ki_0 ?_
        exact ow_irt rfl rfl rfl
      · refine FR_st2 (l2 := ((180, mcl (Int32.ofNat 0) (Int32.ofNat 0) n lim am9 fm9 kM9 nm9 sg9 fa9 qm9 wd9 td9 (posb vs o)) :: (181, mtl ts) :: [(182, ia nw), (187, lng nz), (200, ia ((((li.set (4 * o) (Int32.ofNat 5)).set (4 * o + 1) (Int32.ofNat 0)).set (4 * o + 2) (Int32.ofNat 0)).set (4 * o + 3) (Int32.ofNat 0)))])) rfl rfl rfl ?_
        refine RT_step (pc2 := 1) rfl (fun _ _ => rfl) ?_
        refine rt_bip rfl k8_16 ?_
        refine ow_iv1 (l2 := ((180, mcl (Int32.ofNat 0) (Int32.ofNat 0) n lim a pl (km kd) nm sg (Int32.ofNat 0) qm wd td (posb vs o)) :: (181, mtl ts) :: [(182, ia nw), (187, lng nz), (200, ia li)])) rfl rfl rfl rfl hlen rfl rfl rfl ((m_isWord (k := 16) (ov_hl hlen) (ov_at rfl (ov_lt hlen (by decide))) (km_is kd t.2.2.2.1).2.2.2.2.2 (by decide)).up (by omega)) rfl ?_
        refine RT_step (pc2 := 7) rfl (fun _ _ => rfl) ?_
        refine RT_step (pc2 := 8) rfl (fun _ _ => rfl) ?_
        refine bcF_ne rfl (b01_t hd1) ?_
        refine RT_step (pc2 := 53) rfl (fun _ _ => rfl) ?_
        refine ow_gf rfl rfl rfl hlen rfl ?_
        refine rt_bip rfl k8_40 ?_
        refine biF_ne rfl (n_ne co (by omega) (by omega)) ?_
        refine rt_ico rfl ki_4 ?_
        refine RT_step (pc2 := 69) rfl (fun _ _ => rfl) ?_
        refine ow_gf rfl rfl rfl hlen rfl ?_
        refine ba_imul rfl ?_
        rw [nmul4]
        refine RT_step (pc2 := 74) rfl (fun _ _ => rfl) ?_
        refine RT_step (pc2 := 75) rfl (fun _ _ => rfl) ?_
        refine ow_gf rfl rfl rfl hlen rfl ?_
        refine RT_step (pc2 := 79) rfl (fun _ _ => rfl) ?_
        refine rt_ico rfl ki_5 ?_
        refine ow_iasN (l2 := ((180, mcl (Int32.ofNat 0) (Int32.ofNat 0) n lim a pl (km kd) nm sg (Int32.ofNat 0) qm wd td (posb vs o)) :: (181, mtl ts) :: [(182, ia nw), (187, lng nz), (200, ia (li.set (4 * o) (Int32.ofNat 5)))])) rfl rfl (by (try simp only [List.length_set]); omega) (by omega) hlen rfl rfl ?_
        refine RT_step (pc2 := 82) rfl (fun _ _ => rfl) ?_
        refine ow_gf rfl rfl rfl hlen rfl ?_
        refine RT_step (pc2 := 86) rfl (fun _ _ => rfl) ?_
        refine rt_ico rfl ki_1 ?_
        refine ba_iadd rfl ?_
        rw [n_add]
        refine RT_step (pc2 := 89) rfl (fun _ _ => rfl) ?_
        refine bcF_eq rfl (b01_t hd1) ?_
        refine rt_ico rfl ki_0 ?_
        refine RT_step (pc2 := 114) rfl (fun _ _ => rfl) ?_
        refine ow_iasN (l2 := ((180, mcl (Int32.ofNat 0) (Int32.ofNat 0) n lim a pl (km kd) nm sg (Int32.ofNat 0) qm wd td (posb vs o)) :: (181, mtl ts) :: [(182, ia nw), (187, lng nz), (200, ia ((li.set (4 * o) (Int32.ofNat 5)).set (4 * o + 1) (Int32.ofNat 0)))])) rfl rfl (by (try simp only [List.length_set]); omega) (by omega) hlen rfl rfl ?_
        refine RT_step (pc2 := 116) rfl (fun _ _ => rfl) ?_
        refine ow_gf rfl rfl rfl hlen rfl ?_
        refine RT_step (pc2 := 120) rfl (fun _ _ => rfl) ?_
        refine rt_ico rfl ki_2 ?_
        refine ba_iadd rfl ?_
        rw [n_add]
        refine rt_ico rfl ki_0 ?_
        refine ow_iasN (l2 := ((180, mcl (Int32.ofNat 0) (Int32.ofNat 0) n lim a pl (km kd) nm sg (Int32.ofNat 0) qm wd td (posb vs o)) :: (181, mtl ts) :: [(182, ia nw), (187, lng nz), (200, ia (((li.set (4 * o) (Int32.ofNat 5)).set (4 * o + 1) (Int32.ofNat 0)).set (4 * o + 2) (Int32.ofNat 0)))])) rfl rfl (by (try simp only [List.length_set]); omega) (by omega) hlen rfl rfl ?_
        refine RT_step (pc2 := 125) rfl (fun _ _ => rfl) ?_
        refine ow_gf rfl rfl rfl hlen rfl ?_
        refine RT_step (pc2 := 129) rfl (fun _ _ => rfl) ?_
        refine rt_ico rfl ki_3 ?_
        refine ba_iadd rfl ?_
        rw [n_add]
        refine rt_ico rfl ki_0 ?_
        refine ow_iasN (l2 := ((180, mcl (Int32.ofNat 0) (Int32.ofNat 0) n lim a pl (km kd) nm sg (Int32.ofNat 0) qm wd td (posb vs o)) :: (181, mtl ts) :: [(182, ia nw), (187, lng nz), (200, ia ((((li.set (4 * o) (Int32.ofNat 5)).set (4 * o + 1) (Int32.ofNat 0)).set (4 * o + 2) (Int32.ofNat 0)).set (4 * o + 3) (Int32.ofNat 0)))])) rfl rfl (by (try simp only [List.length_set]); omega) (by omega) hlen rfl rfl ?_
        refine RT_step (pc2 := 134) rfl (fun _ _ => rfl) ?_
        refine ow_iv0 (l2 := ((180, mcl (Int32.ofNat 0) (Int32.ofNat 0) n lim a1 pl1 (km kd1) nm1 sg1 (Int32.ofNat 0) qm1 wd1 td (posb vs o)) :: (181, mtl ts) :: [(182, ia nw), (187, lng nz), (200, ia ((((li.set (4 * o) (Int32.ofNat 5)).set (4 * o + 1) (Int32.ofNat 0)).set (4 * o + 2) (Int32.ofNat 0)).set (4 * o + 3) (Int32.ofNat 0)))])) rfl rfl rfl rfl hlen rfl rfl rfl ((m1 _ (ov_hl hlen) (ov_at rfl (ov_lt hlen (by decide))) (ov_at rfl (ov_lt hlen (by decide)))).up (by omega)) rfl ?_
        refine RT_step (pc2 := 138) rfl (fun _ _ => rfl) ?_
        refine bcF_eq rfl (b01_t hd1) ?_
        refine RT_step (pc2 := 142) rfl (fun _ _ => rfl) ?_
        refine RT_step (pc2 := 143) rfl (fun _ _ => rfl) ?_
        refine rt_ico rfl ki_1 ?_
        refine ba_iadd rfl ?_
        rw [n_add]
        refine RT_step (pc2 := 146) rfl (fun _ _ => rfl) ?_
        refine rt_ico rfl ki_1 ?_
        refine rt_bip rfl k8_60 ?_
        refine ow_iv1 (l2 := ((180, mcl (Int32.ofNat 0) (Int32.ofNat 0) n lim am9 fm9 kM9 nm9 sg9 fa9 qm9 wd9 td9 (posb vs o)) :: (181, mtl ts) :: [(182, ia nw), (187, lng nz), (200, ia ((((li.set (4 * o) (Int32.ofNat 5)).set (4 * o + 1) (Int32.ofNat 0)).set (4 * o + 2) (Int32.ofNat 0)).set (4 * o + 3) (Int32.ofNat 0)))])) rfl rfl rfl rfl hlen rfl rfl rfl ((hm _ (ov_hl hlen) (ov_at rfl (ov_lt hlen (by decide))) (ov_at rfl (ov_lt hlen (by decide)))).up (by omega)) rfl ?_
        refine ow_iv1 (l2 := ((180, mcl (Int32.ofNat 0) (Int32.ofNat 0) n lim am9 fm9 kM9 nm9 sg9 fa9 qm9 wd9 td9 (posb vs o)) :: (181, mtl ts) :: [(182, ia nw), (187, lng nz), (200, ia ((((li.set (4 * o) (Int32.ofNat 5)).set (4 * o + 1) (Int32.ofNat 0)).set (4 * o + 2) (Int32.ofNat 0)).set (4 * o + 3) (Int32.ofNat 0)))])) rfl rfl rfl rfl hlen rfl rfl rfl (m_kp0.up (by omega)) rfl ?_
        refine bcT_eq rfl rfl ?_
        refine rt_ico rfl ki_0 ?_
        exact ow_irt rfl rfl rfl
    · obtain ⟨a3, kd3, pl3, w3, le3, nu3, fp3, nm3, sg3, qm3, wd3, rfl, rfl, t3⟩ := c3
      obtain ⟨v1, v2, v3, v4, bx2, hadd⟩ := bx_add bx ho (Int32.ofNat 50) (Int32.ofNat 0) (Int32.ofNat v) (Int32.ofNat 0)
      refine Or.inr ⟨ho, _, (Int32.ofNat v), (Int32.ofNat v), tcl n lim a3 kd3 pl3 w3 le3 nu3 (Int32.ofNat v) (Int32.ofNat 0) fp3, mcl (Int32.ofNat 0) (Int32.ofNat 0) n lim a3 pl3 (km kd3) nm3 sg3 (Int32.ofNat 0) qm3 wd3 (Int32.ofNat v) (posb vs o), v1, v2, v3, v4, (((((li.set (4 * o) (Int32.ofNat 5)).set (4 * o + 1) (Int32.ofNat 0)).set (4 * o + 2) (Int32.ofNat 0)).set (4 * o + 3) (Int32.ofNat 0)).set (4 * o + 1) (Int32.ofNat v)), tf_td t3, bx2, by simp only [List.length_set]; exact ln, fun H hlen => ?_, fun H dd q hlen hq => ?_⟩
      · refine FR_st2 (l2 := ((1, tcl n lim a3 kd3 pl3 w3 le3 nu3 (Int32.ofNat v) (Int32.ofNat 0) fp3) :: (2, bcl bs) :: [(3, dcl3 P Dn lw cl id gl bo), (4, lng pn), (5, ia ri), (6, ia lf), (7, ia wa), (8, ia fo), (9, lng dn), (10, ia ha), (11, ia pa), (12, ia bl), (105, bkc (o + 1) bv), (106, ia v1), (107, ia v2), (108, ia v3), (109, ia v4)])) rfl rfl rfl ?_
        refine RT_step (pc2 := 1) rfl (fun _ _ => rfl) ?_
        refine ow_gf rfl rfl rfl hlen rfl ?_
        refine rt_bip rfl k8_40 ?_
        refine biT_lt rfl (n_lt (by omega) (by omega)) ?_
        refine RT_step (pc2 := 16) rfl (fun _ _ => rfl) ?_
        refine ow_iv0 (l2 := ((1, tcl n lim a1 kd1 pl1 w1 le1 nu1 tk (Int32.ofNat 0) fp1) :: (2, bcl bs) :: [(3, dcl3 P Dn lw cl id gl bo), (4, lng pn), (5, ia ri), (6, ia lf), (7, ia wa), (8, ia fo), (9, lng dn), (10, ia ha), (11, ia pa), (12, ia bl), (105, bkc o bv), (106, ia u1), (107, ia u2), (108, ia u3), (109, ia u4)])) rfl rfl rfl rfl hlen rfl rfl rfl ((x1 _ (ov_hl hlen) (ov_at rfl (ov_lt hlen (by decide))) (ov_at rfl (ov_lt hlen (by decide)))).up (by decide)) rfl ?_
        refine RT_step (pc2 := 20) rfl (fun _ _ => rfl) ?_
        refine rt_ico rfl ki_1 ?_
        refine rt_bip rfl k8_60 ?_
        refine ow_iv1 (l2 := ((1, tcl n lim a3 kd3 pl3 w3 le3 nu3 (Int32.ofNat v) (Int32.ofNat 0) fp3) :: (2, bcl bs) :: [(3, dcl3 P Dn lw cl id gl bo), (4, lng pn), (5, ia ri), (6, ia lf), (7, ia wa), (8, ia fo), (9, lng dn), (10, ia ha), (11, ia pa), (12, ia bl), (105, bkc o bv), (106, ia u1), (107, ia u2), (108, ia u3), (109, ia u4)])) rfl rfl rfl rfl hlen rfl rfl rfl ((hx _ (ov_hl hlen) (ov_at rfl (ov_lt hlen (by decide))) (ov_at rfl (ov_lt hlen (by decide)))).up (by decide)) rfl ?_
        refine bcF_ne rfl (by decide) ?_
        refine RT_step (pc2 := 32) rfl (fun _ _ => rfl) ?_
        refine rt_bip rfl k8_50 ?_
        refine rt_ico rfl ki_0 ?_
        refine RT_step (pc2 := 36) rfl (fun _ _ => rfl) ?_
        refine ow_gf rfl rfl rfl hlen rfl ?_
        refine rt_ico rfl ki_0 ?_
        refine ow_iv0 (l2 := ((1, tcl n lim a3 kd3 pl3 w3 le3 nu3 (Int32.ofNat v) (Int32.ofNat 0) fp3) :: (2, bcl bs) :: [(3, dcl3 P Dn lw cl id gl bo), (4, lng pn), (5, ia ri), (6, ia lf), (7, ia wa), (8, ia fo), (9, lng dn), (10, ia ha), (11, ia pa), (12, ia bl), (105, bkc (o + 1) bv), (106, ia v1), (107, ia v2), (108, ia v3), (109, ia v4)])) rfl rfl rfl rfl hlen rfl rfl rfl ((hadd bv _ (ov_hl hlen) (ov_at rfl (ov_lt hlen (by decide))) (ov_at rfl (ov_lt hlen (by decide))) (ov_at rfl (ov_lt hlen (by decide))) (ov_at rfl (ov_lt hlen (by decide))) (ov_at rfl (ov_lt hlen (by decide)))).up (by decide)) rfl ?_
        refine rt_ico rfl ki_1 ?_
        exact ow_irt rfl rfl rfl
      · refine RT_step (pc2 := 1) rfl (fun _ _ => rfl) ?_
        refine rt_bip rfl k8_16 ?_
        refine ow_iv1 (l2 := ((180, mcl (Int32.ofNat 0) (Int32.ofNat 0) n lim a pl (km kd) nm sg (Int32.ofNat 0) qm wd td (posb vs o)) :: (181, mtl ts) :: [(182, ia nw), (187, lng nz), (200, ia li)])) rfl rfl rfl rfl hlen rfl rfl rfl ((m_isWord (k := 16) (ov_hl hlen) (ov_at rfl (ov_lt hlen (by decide))) (km_is kd t.2.2.2.1).2.2.2.2.2 (by decide)).up (by omega)) rfl ?_
        refine RT_step (pc2 := 7) rfl (fun _ _ => rfl) ?_
        refine RT_step (pc2 := 8) rfl (fun _ _ => rfl) ?_
        refine bcF_ne rfl (b01_t hd1) ?_
        refine RT_step (pc2 := 53) rfl (fun _ _ => rfl) ?_
        refine ow_gf rfl rfl rfl hlen rfl ?_
        refine rt_bip rfl k8_40 ?_
        refine biF_ne rfl (n_ne co (by omega) (by omega)) ?_
        refine rt_ico rfl ki_4 ?_
        refine RT_step (pc2 := 69) rfl (fun _ _ => rfl) ?_
        refine ow_gf rfl rfl rfl hlen rfl ?_
        refine ba_imul rfl ?_
        rw [nmul4]
        refine RT_step (pc2 := 74) rfl (fun _ _ => rfl) ?_
        refine RT_step (pc2 := 75) rfl (fun _ _ => rfl) ?_
        refine ow_gf rfl rfl rfl hlen rfl ?_
        refine RT_step (pc2 := 79) rfl (fun _ _ => rfl) ?_
        refine rt_ico rfl ki_5 ?_
        refine ow_iasN (l2 := ((180, mcl (Int32.ofNat 0) (Int32.ofNat 0) n lim a pl (km kd) nm sg (Int32.ofNat 0) qm wd td (posb vs o)) :: (181, mtl ts) :: [(182, ia nw), (187, lng nz), (200, ia (li.set (4 * o) (Int32.ofNat 5)))])) rfl rfl (by (try simp only [List.length_set]); omega) (by omega) hlen rfl rfl ?_
        refine RT_step (pc2 := 82) rfl (fun _ _ => rfl) ?_
        refine ow_gf rfl rfl rfl hlen rfl ?_
        refine RT_step (pc2 := 86) rfl (fun _ _ => rfl) ?_
        refine rt_ico rfl ki_1 ?_
        refine ba_iadd rfl ?_
        rw [n_add]
        refine RT_step (pc2 := 89) rfl (fun _ _ => rfl) ?_
        refine bcF_eq rfl (b01_t hd1) ?_
        refine rt_ico rfl ki_0 ?_
        refine RT_step (pc2 := 114) rfl (fun _ _ => rfl) ?_
        refine ow_iasN (l2 := ((180, mcl (Int32.ofNat 0) (Int32.ofNat 0) n lim a pl (km kd) nm sg (Int32.ofNat 0) qm wd td (posb vs o)) :: (181, mtl ts) :: [(182, ia nw), (187, lng nz), (200, ia ((li.set (4 * o) (Int32.ofNat 5)).set (4 * o + 1) (Int32.ofNat 0)))])) rfl rfl (by (try simp only [List.length_set]); omega) (by omega) hlen rfl rfl ?_
        refine RT_step (pc2 := 116) rfl (fun _ _ => rfl) ?_
        refine ow_gf rfl rfl rfl hlen rfl ?_
        refine RT_step (pc2 := 120) rfl (fun _ _ => rfl) ?_
        refine rt_ico rfl ki_2 ?_
        refine ba_iadd rfl ?_
        rw [n_add]
        refine rt_ico rfl ki_0 ?_
        refine ow_iasN (l2 := ((180, mcl (Int32.ofNat 0) (Int32.ofNat 0) n lim a pl (km kd) nm sg (Int32.ofNat 0) qm wd td (posb vs o)) :: (181, mtl ts) :: [(182, ia nw), (187, lng nz), (200, ia (((li.set (4 * o) (Int32.ofNat 5)).set (4 * o + 1) (Int32.ofNat 0)).set (4 * o + 2) (Int32.ofNat 0)))])) rfl rfl (by (try simp only [List.length_set]); omega) (by omega) hlen rfl rfl ?_
        refine RT_step (pc2 := 125) rfl (fun _ _ => rfl) ?_
        refine ow_gf rfl rfl rfl hlen rfl ?_
        refine RT_step (pc2 := 129) rfl (fun _ _ => rfl) ?_
        refine rt_ico rfl ki_3 ?_
        refine ba_iadd rfl ?_
        rw [n_add]
        refine rt_ico rfl ki_0 ?_
        refine ow_iasN (l2 := ((180, mcl (Int32.ofNat 0) (Int32.ofNat 0) n lim a pl (km kd) nm sg (Int32.ofNat 0) qm wd td (posb vs o)) :: (181, mtl ts) :: [(182, ia nw), (187, lng nz), (200, ia ((((li.set (4 * o) (Int32.ofNat 5)).set (4 * o + 1) (Int32.ofNat 0)).set (4 * o + 2) (Int32.ofNat 0)).set (4 * o + 3) (Int32.ofNat 0)))])) rfl rfl (by (try simp only [List.length_set]); omega) (by omega) hlen rfl rfl ?_
        refine RT_step (pc2 := 134) rfl (fun _ _ => rfl) ?_
        refine ow_iv0 (l2 := ((180, mcl (Int32.ofNat 0) (Int32.ofNat 0) n lim a1 pl1 (km kd1) nm1 sg1 (Int32.ofNat 0) qm1 wd1 td (posb vs o)) :: (181, mtl ts) :: [(182, ia nw), (187, lng nz), (200, ia ((((li.set (4 * o) (Int32.ofNat 5)).set (4 * o + 1) (Int32.ofNat 0)).set (4 * o + 2) (Int32.ofNat 0)).set (4 * o + 3) (Int32.ofNat 0)))])) rfl rfl rfl rfl hlen rfl rfl rfl ((m1 _ (ov_hl hlen) (ov_at rfl (ov_lt hlen (by decide))) (ov_at rfl (ov_lt hlen (by decide)))).up (by omega)) rfl ?_
        refine RT_step (pc2 := 138) rfl (fun _ _ => rfl) ?_
        refine bcF_eq rfl (b01_t hd1) ?_
        refine RT_step (pc2 := 142) rfl (fun _ _ => rfl) ?_
        refine RT_step (pc2 := 143) rfl (fun _ _ => rfl) ?_
        refine rt_ico rfl ki_1 ?_
        refine ba_iadd rfl ?_
        rw [n_add]
        refine RT_step (pc2 := 146) rfl (fun _ _ => rfl) ?_
        refine rt_ico rfl ki_1 ?_
        refine rt_bip rfl k8_60 ?_
        refine ow_iv1 (l2 := ((180, mcl (Int32.ofNat 0) (Int32.ofNat 0) n lim a3 pl3 (km kd3) nm3 sg3 (Int32.ofNat 0) qm3 wd3 (Int32.ofNat v) (posb vs o)) :: (181, mtl ts) :: [(182, ia nw), (187, lng nz), (200, ia ((((li.set (4 * o) (Int32.ofNat 5)).set (4 * o + 1) (Int32.ofNat 0)).set (4 * o + 2) (Int32.ofNat 0)).set (4 * o + 3) (Int32.ofNat 0)))])) rfl rfl rfl rfl hlen rfl rfl rfl ((hm _ (ov_hl hlen) (ov_at rfl (ov_lt hlen (by decide))) (ov_at rfl (ov_lt hlen (by decide)))).up (by omega)) rfl ?_
        refine ow_iv1 (l2 := ((180, mcl (Int32.ofNat 0) (Int32.ofNat 0) n lim a3 pl3 (km kd3) nm3 sg3 (Int32.ofNat 0) qm3 wd3 (Int32.ofNat v) (posb vs o)) :: (181, mtl ts) :: [(182, ia nw), (187, lng nz), (200, ia (((((li.set (4 * o) (Int32.ofNat 5)).set (4 * o + 1) (Int32.ofNat 0)).set (4 * o + 2) (Int32.ofNat 0)).set (4 * o + 3) (Int32.ofNat 0)).set (4 * o + 1) (Int32.ofNat v)))])) rfl rfl rfl rfl hlen rfl rfl rfl ((m_kp1 (ov_hl hlen) (ov_at rfl (ov_lt hlen (by decide))) (ov_at rfl (ov_lt hlen (by decide))) (by (try simp only [List.length_set]); omega) (by omega)).up (by omega)) rfl ?_
        refine bcF_eq rfl (by decide) ?_
        refine RT_step (pc2 := 169) rfl (fun _ _ => rfl) ?_
        exact hq _ rfl
theorem b_act13 {B : Nat → Nat} {bs ts : List Int32} {vs : Nat → Value} {bv : Nat → Int32} {n lim : Nat} {k a kd pl w : Nat} {le : Int64} {nu tk td fp nm sg qm : Int32} {wd : Int64} {o : Nat} {u1 u2 u3 u4 nw li : List Int32} {nz : List Int64} {P : Nat} {Dn : Nat} {lw : Int32} {cl : Int32} {id : Int32} {gl : Nat} {bo : Nat} {pn : List Int64} {ri : List Int32} {lf : List Int32} {wa : List Int32} {fo : List Int32} {dn : List Int64} {ha : List Int32} {pa : List Int32} {bl : List Int32} (hB : BY bs B) (hM : MY ts B) (hb : ∀ i, B i < 256) (hn : n ≤ 940) (hl : lim ≤ 940) (t : TF k n a kd w le nu nm sg wd) (hday : ¬ w = 16) (hP : P ≤ 7) (hDn : Dn ≤ 8) (lp : pn.length = 7) (ld : dn.length = 8) (lz : nz.length = 15) (hv : nw[0]? = some (Int32.ofNat P)) (hv1 : nw[1]? = some (Int32.ofNat Dn)) (hN : ∀ i, i < P → ∃ ss, nok ss ∧ pn[i]? = some (p5 ss) ∧ nz[0 + i]? = some (p27 ss)) (hN2 : ∀ i, i < Dn → ∃ ss, nok ss ∧ dn[i]? = some (p5 ss) ∧ nz[7 + i]? = some (p27 ss)) (bx : BX o u1 u2 u3 u4) (ln : li.length = 160) : (∃ (T M : AE) (li2 : List Int32), FC n lim (posb vs o) T M ∧ li2.length = 160 ∧ LSb 12 51 [.ref 105, .ref 1, .ref 13] 14 246 [.ref 180] ((1, tcl n lim a kd pl w le nu tk (Int32.ofNat 0) fp) :: (2, bcl bs) :: [(13, dcl13 P Dn lw cl id gl bo), (14, lng pn), (15, ia ri), (16, ia lf), (17, ia wa), (18, ia fo), (19, lng dn), (20, ia ha), (21, ia pa), (22, ia bl), (105, bkc o bv), (106, ia u1), (107, ia u2), (108, ia u3), (109, ia u4)]) ((180, mcl (Int32.ofNat 0) (Int32.ofNat 0) n lim a pl (km kd) nm sg (Int32.ofNat 0) qm wd td (posb vs o)) :: (181, mtl ts) :: [(182, ia nw), (187, lng nz), (200, ia li)]) (.int (Int32.ofNat 0)) (.int (Int32.ofNat 0)) [(1, T)] [(180, M), (200, ia li2)]) ∨ (o < 40 ∧ ∃ (k2 : Nat) (tk2 td2 : Int32) (T M : AE) (v1 v2 v3 v4 li2 : List Int32), TC n lim (posb vs o) k2 tk2 td2 T M ∧ BX (o + 1) v1 v2 v3 v4 ∧ li2.length = 160 ∧ (∀ H : List AE, Nat.ble 204 H.length = true → FR 12 51 [.ref 105, .ref 1, .ref 13] (ov H ((1, tcl n lim a kd pl w le nu tk (Int32.ofNat 0) fp) :: (2, bcl bs) :: [(13, dcl13 P Dn lw cl id gl bo), (14, lng pn), (15, ia ri), (16, ia lf), (17, ia wa), (18, ia fo), (19, lng dn), (20, ia ha), (21, ia pa), (22, ia bl), (105, bkc o bv), (106, ia u1), (107, ia u2), (108, ia u3), (109, ia u4)])) (some (.int (Int32.ofNat 1)), ov (ov H ((1, tcl n lim a kd pl w le nu tk (Int32.ofNat 0) fp) :: (2, bcl bs) :: [(13, dcl13 P Dn lw cl id gl bo), (14, lng pn), (15, ia ri), (16, ia lf), (17, ia wa), (18, ia fo), (19, lng dn), (20, ia ha), (21, ia pa), (22, ia bl), (105, bkc o bv), (106, ia u1), (107, ia u2), (108, ia u3), (109, ia u4)])) [(1, T), (105, bkc (o + 1) bv), (106, ia v1), (107, ia v2), (108, ia v3), (109, ia v4)])) ∧ ∀ (H : List AE) (dd : Nat) (q : ev_R), Nat.ble 204 H.length = true → (∀ L2, ev_g L2 0 = some (.ref 180) → RT MM (dd + 13) 246 169 L2 [] (ov H ((180, M) :: (181, mtl ts) :: [(182, ia nw), (187, lng nz), (200, ia li2)])) q) → RT MM (dd + 13) 246 0 (lv_args 0 [.ref 180]) [] (ov H ((180, mcl (Int32.ofNat 0) (Int32.ofNat 0) n lim a pl (km kd) nm sg (Int32.ofNat 0) qm wd td (posb vs o)) :: (181, mtl ts) :: [(182, ia nw), (187, lng nz), (200, ia li)])) q) := by
  have hd0 : isW (km kd) wd 16 = false := by
    rw [w_is t (by decide)]
    exact decide_eq_false hday
  have ho0 := bx.1
  have hw0 := t.2.2.2.2.1
  by_cases c : w = 1
  · have hk1 := w_k1 t (by omega)
    obtain ⟨rs, r1, r2, r3, r4, r5, r6⟩ := t.2.2.2.2.2.1 hk1
    have hr : nok rs := ⟨r1, r2, r3⟩
    have hnm : (Nat.beq (km kd) 2 && nmB wd 30 0) = true := by rw [w_nm t, c]; rfl
    have q0 := nm_eq hr hN
    rw [← r4, ← r5] at q0
    clear r1 r2 r3 r4 r5 r6 hr
    cases e0 : fd pn le 0 P 0 with
    | some j0 =>
      have g0 := q0.symm.trans e0
      have hj0 := (fd_lt e0).2
      by_cases co : o = 40
      · obtain ⟨T, M, f, hx, hm⟩ := s_ref (bs := bs) (ts := ts) (lim := lim) (po := (posb vs o)) (pl := pl) (tk := tk) (td := td) (fp := fp) (plM := qm) t (kk := 4) (by decide) (by decide) (Or.inl (by omega))
        refine Or.inl ⟨T, M, li, f, ln, fun H hlen => ?_, fun H hlen => ?_⟩
        · have hz : FR 2 71 [.ref 1, .ref 14, .int (Int32.ofNat P)] (ov H ((1, tcl n lim a kd pl w le nu tk (Int32.ofNat 0) fp) :: (2, bcl bs) :: [(13, dcl13 P Dn lw cl id gl bo), (14, lng pn), (15, ia ri), (16, ia lf), (17, ia wa), (18, ia fo), (19, lng dn), (20, ia ha), (21, ia pa), (22, ia bl), (105, bkc o bv), (106, ia u1), (107, ia u2), (108, ia u3), (109, ia u4)])) (some (.int (Int32.ofNat j0)), ov (ov H ((1, tcl n lim a kd pl w le nu tk (Int32.ofNat 0) fp) :: (2, bcl bs) :: [(13, dcl13 P Dn lw cl id gl bo), (14, lng pn), (15, ia ri), (16, ia lf), (17, ia wa), (18, ia fo), (19, lng dn), (20, ia ha), (21, ia pa), (22, ia bl), (105, bkc o bv), (106, ia u1), (107, ia u2), (108, ia u3), (109, ia u4)])) [(1, tcl n lim a kd pl w le nu tk (Int32.ofNat 0) fp)]) := by
            refine FR_st2 (l2 := ((1, tcl n lim a kd pl w le nu tk (Int32.ofNat 0) fp) :: (2, bcl bs) :: [(13, dcl13 P Dn lw cl id gl bo), (14, lng pn), (15, ia ri), (16, ia lf), (17, ia wa), (18, ia fo), (19, lng dn), (20, ia ha), (21, ia pa), (22, ia bl), (105, bkc o bv), (106, ia u1), (107, ia u2), (108, ia u3), (109, ia u4)])) rfl rfl rfl ?_
            refine RT_step (pc2 := 1) rfl (fun _ _ => rfl) ?_
            refine ow_gf rfl rfl rfl hlen rfl ?_
            refine RT_step (pc2 := 7) rfl (fun _ _ => rfl) ?_
            refine rt_acE rfl (by omega) (by omega) ?_
            refine RT_if c ?_
            refine RT_step (pc2 := 19) rfl (fun _ _ => rfl) ?_
            refine RT_step (pc2 := 20) rfl (fun _ _ => rfl) ?_
            refine RT_step (pc2 := 21) rfl (fun _ _ => rfl) ?_
            refine ow_gf rfl rfl rfl hlen rfl ?_
            refine ow_is1 rfl rfl rfl rfl rfl ((x_find14 (ov_hl hlen) (ov_at rfl (ov_lt hlen (by decide))) (by omega) (by omega)).up (by decide)) rfl ?_
            rw [show fdI (fd pn le 0 P 0) = Int32.ofNat j0 from by rw [e0]; rfl]
            refine RT_step (pc2 := 28) rfl (fun _ _ => rfl) ?_
            refine RT_step (pc2 := 29) rfl (fun _ _ => rfl) ?_
            refine rt_ico rfl ki_m1 ?_
            refine biF_ne rfl (n_m1 (by omega)) ?_
            refine RT_step (pc2 := 40) rfl (fun _ _ => rfl) ?_
            exact ow_irt rfl rfl rfl
          have hy : FR 3 73 [.ref 13, .ref 1] (ov H ((1, tcl n lim a kd pl w le nu tk (Int32.ofNat 0) fp) :: (2, bcl bs) :: [(13, dcl13 P Dn lw cl id gl bo), (14, lng pn), (15, ia ri), (16, ia lf), (17, ia wa), (18, ia fo), (19, lng dn), (20, ia ha), (21, ia pa), (22, ia bl), (105, bkc o bv), (106, ia u1), (107, ia u2), (108, ia u3), (109, ia u4)])) (some (.int (Int32.ofNat j0)), ov (ov H ((1, tcl n lim a kd pl w le nu tk (Int32.ofNat 0) fp) :: (2, bcl bs) :: [(13, dcl13 P Dn lw cl id gl bo), (14, lng pn), (15, ia ri), (16, ia lf), (17, ia wa), (18, ia fo), (19, lng dn), (20, ia ha), (21, ia pa), (22, ia bl), (105, bkc o bv), (106, ia u1), (107, ia u2), (108, ia u3), (109, ia u4)])) [(1, tcl n lim a kd pl w le nu tk (Int32.ofNat 0) fp)]) := by
            refine FR_st2 (l2 := ((1, tcl n lim a kd pl w le nu tk (Int32.ofNat 0) fp) :: (2, bcl bs) :: [(13, dcl13 P Dn lw cl id gl bo), (14, lng pn), (15, ia ri), (16, ia lf), (17, ia wa), (18, ia fo), (19, lng dn), (20, ia ha), (21, ia pa), (22, ia bl), (105, bkc o bv), (106, ia u1), (107, ia u2), (108, ia u3), (109, ia u4)])) rfl rfl rfl ?_
            refine RT_step (pc2 := 1) rfl (fun _ _ => rfl) ?_
            refine RT_step (pc2 := 2) rfl (fun _ _ => rfl) ?_
            refine ow_gf rfl rfl rfl hlen rfl ?_
            refine RT_step (pc2 := 6) rfl (fun _ _ => rfl) ?_
            refine ow_gf rfl rfl rfl hlen rfl ?_
            refine ow_is1 (l2 := ((1, tcl n lim a kd pl w le nu tk (Int32.ofNat 0) fp) :: (2, bcl bs) :: [(13, dcl13 P Dn lw cl id gl bo), (14, lng pn), (15, ia ri), (16, ia lf), (17, ia wa), (18, ia fo), (19, lng dn), (20, ia ha), (21, ia pa), (22, ia bl), (105, bkc o bv), (106, ia u1), (107, ia u2), (108, ia u3), (109, ia u4)])) rfl rfl rfl rfl rfl (hz.up (by decide)) rfl ?_
            exact ow_irt rfl rfl rfl
          refine FR_st2 (l2 := ((1, T) :: (2, bcl bs) :: [(13, dcl13 P Dn lw cl id gl bo), (14, lng pn), (15, ia ri), (16, ia lf), (17, ia wa), (18, ia fo), (19, lng dn), (20, ia ha), (21, ia pa), (22, ia bl), (105, bkc o bv), (106, ia u1), (107, ia u2), (108, ia u3), (109, ia u4)])) rfl rfl rfl ?_
          refine RT_step (pc2 := 1) rfl (fun _ _ => rfl) ?_
          refine RT_step (pc2 := 2) rfl (fun _ _ => rfl) ?_
          refine ow_iv1 (l2 := ((1, tcl n lim a kd pl w le nu tk (Int32.ofNat 0) fp) :: (2, bcl bs) :: [(13, dcl13 P Dn lw cl id gl bo), (14, lng pn), (15, ia ri), (16, ia lf), (17, ia wa), (18, ia fo), (19, lng dn), (20, ia ha), (21, ia pa), (22, ia bl), (105, bkc o bv), (106, ia u1), (107, ia u2), (108, ia u3), (109, ia u4)])) rfl rfl rfl rfl hlen rfl rfl rfl (hy.up (by decide)) rfl ?_
          refine RT_step (pc2 := 6) rfl (fun _ _ => rfl) ?_
          refine RT_step (pc2 := 7) rfl (fun _ _ => rfl) ?_
          refine rt_ico rfl ki_m1 ?_
          refine biF_ne rfl (n_m1 (by omega)) ?_
          refine RT_step (pc2 := 14) rfl (fun _ _ => rfl) ?_
          refine ow_gf rfl rfl rfl hlen rfl ?_
          refine rt_bip rfl k8_40 ?_
          refine biF_lt rfl (n_nlt (by omega) (by omega)) ?_
          refine RT_step (pc2 := 23) rfl (fun _ _ => rfl) ?_
          refine rt_ico rfl ki_4 ?_
          refine ow_iv1 (l2 := ((1, T) :: (2, bcl bs) :: [(13, dcl13 P Dn lw cl id gl bo), (14, lng pn), (15, ia ri), (16, ia lf), (17, ia wa), (18, ia fo), (19, lng dn), (20, ia ha), (21, ia pa), (22, ia bl), (105, bkc o bv), (106, ia u1), (107, ia u2), (108, ia u3), (109, ia u4)])) rfl rfl rfl rfl hlen rfl rfl rfl ((hx _ (ov_hl hlen) (ov_at rfl (ov_lt hlen (by decide))) (ov_at rfl (ov_lt hlen (by decide)))).up (by decide)) rfl ?_
          exact ow_irt rfl rfl rfl
        · refine FR_st2 (l2 := ((180, M) :: (181, mtl ts) :: [(182, ia nw), (187, lng nz), (200, ia li)])) rfl rfl rfl ?_
          refine RT_step (pc2 := 1) rfl (fun _ _ => rfl) ?_
          refine rt_bip rfl k8_16 ?_
          refine ow_iv1 (l2 := ((180, mcl (Int32.ofNat 0) (Int32.ofNat 0) n lim a pl (km kd) nm sg (Int32.ofNat 0) qm wd td (posb vs o)) :: (181, mtl ts) :: [(182, ia nw), (187, lng nz), (200, ia li)])) rfl rfl rfl rfl hlen rfl rfl rfl ((m_isWord (k := 16) (ov_hl hlen) (ov_at rfl (ov_lt hlen (by decide))) (km_is kd t.2.2.2.1).2.2.2.2.2 (by decide)).up (by omega)) rfl ?_
          refine RT_step (pc2 := 7) rfl (fun _ _ => rfl) ?_
          refine RT_step (pc2 := 8) rfl (fun _ _ => rfl) ?_
          refine bcT_ne rfl (b01_f hd0) ?_
          refine RT_step (pc2 := 12) rfl (fun _ _ => rfl) ?_
          refine ow_iv1 (l2 := ((180, mcl (Int32.ofNat 0) (Int32.ofNat 0) n lim a pl (km kd) nm sg (Int32.ofNat 0) qm wd td (posb vs o)) :: (181, mtl ts) :: [(182, ia nw), (187, lng nz), (200, ia li)])) rfl rfl rfl rfl hlen rfl rfl rfl ((m_isName (ov_hl hlen) (ov_at rfl (ov_lt hlen (by decide))) (km_is kd t.2.2.2.1).2.2.2.2.2).up (by omega)) rfl ?_
          refine bcF_ne rfl (b01_t hnm) ?_
          refine RT_step (pc2 := 25) rfl (fun _ _ => rfl) ?_
          refine ow_gf rfl rfl rfl hlen rfl ?_
          refine rt_ico rfl ki_0 ?_
          refine RT_step (pc2 := 30) rfl (fun _ _ => rfl) ?_
          refine ow_gf rfl rfl rfl hlen rfl ?_
          refine rt_ico rfl ki_0 ?_
          refine ow_ialN rfl rfl hv (by omega) hlen rfl ?_
          refine RT_step (pc2 := 36) rfl (fun _ _ => rfl) ?_
          refine ow_gf rfl rfl rfl hlen rfl ?_
          refine ow_is1 (l2 := ((180, mcl (Int32.ofNat 0) (Int32.ofNat 0) n lim a pl (km kd) nm sg (Int32.ofNat 0) qm wd td (posb vs o)) :: (181, mtl ts) :: [(182, ia nw), (187, lng nz), (200, ia li)])) rfl rfl rfl rfl rfl ((m_find7 (bs0 := 0) (cnt := P) (ov_hl hlen) (ov_at rfl (ov_lt hlen (by decide))) (by omega) (by omega)).up (by omega)) rfl ?_
          rw [show fdI (fd nz wd 0 P 0) = Int32.ofNat j0 from by rw [g0]; rfl]
          refine rt_ico rfl ki_m1 ?_
          refine biF_ne rfl (n_m1 (by omega)) ?_
          refine RT_step (pc2 := 53) rfl (fun _ _ => rfl) ?_
          refine ow_gf rfl rfl rfl hlen rfl ?_
          refine rt_bip rfl k8_40 ?_
          refine biT_ne rfl (n_eq co) ?_
          refine RT_step (pc2 := 62) rfl (fun _ _ => rfl) ?_
          refine rt_ico rfl ki_4 ?_
          refine ow_iv1 (l2 := ((180, M) :: (181, mtl ts) :: [(182, ia nw), (187, lng nz), (200, ia li)])) rfl rfl rfl rfl hlen rfl rfl rfl ((hm _ (ov_hl hlen) (ov_at rfl (ov_lt hlen (by decide))) (ov_at rfl (ov_lt hlen (by decide)))).up (by omega)) rfl ?_
          exact ow_irt rfl rfl rfl
      have ho : o < 40 := by omega
      obtain ⟨T1, M1, c1, x1, m1⟩ := s_adv hB hM hb hn hl (po := (posb vs o)) (pl := pl) (tk := tk) (td := td) (fp := fp) (plM := qm) t (by omega) (by omega)
      obtain ⟨a1, kd1, pl1, w1, le1, nu1, fp1, nm1, sg1, qm1, wd1, rfl, rfl, t1⟩ := c1
      have hw1 := t1.2.2.2.2.1
      have ln4 : ((((li.set (4 * o) (Int32.ofNat 5)).set (4 * o + 1) (Int32.ofNat j0)).set (4 * o + 2) (Int32.ofNat 0)).set (4 * o + 3) (Int32.ofNat 0)).length = 160 := by simp only [List.length_set]; exact ln
      rcases vb_cases w1 hw1 with ⟨jv, sw⟩ | ⟨jv, cv⟩ | ⟨jv, cv⟩ | ⟨jv, cv⟩ | ⟨jv, cv⟩ | ⟨jv, cv⟩
      · obtain ⟨T, M, f, hx, hm⟩ := s_ref (bs := bs) (ts := ts) (lim := lim) (po := (posb vs o)) (pl := pl1) (tk := tk) (td := td) (fp := fp1) (plM := qm1) t1 (kk := 1) (by decide) (by decide) (Or.inr rfl)
        refine Or.inl ⟨T, M, ((((li.set (4 * o) (Int32.ofNat 5)).set (4 * o + 1) (Int32.ofNat j0)).set (4 * o + 2) (Int32.ofNat 0)).set (4 * o + 3) (Int32.ofNat 0)), f, by simp only [List.length_set]; exact ln, fun H hlen => ?_, fun H hlen => ?_⟩
        · have hz : FR 2 71 [.ref 1, .ref 14, .int (Int32.ofNat P)] (ov H ((1, tcl n lim a kd pl w le nu tk (Int32.ofNat 0) fp) :: (2, bcl bs) :: [(13, dcl13 P Dn lw cl id gl bo), (14, lng pn), (15, ia ri), (16, ia lf), (17, ia wa), (18, ia fo), (19, lng dn), (20, ia ha), (21, ia pa), (22, ia bl), (105, bkc o bv), (106, ia u1), (107, ia u2), (108, ia u3), (109, ia u4)])) (some (.int (Int32.ofNat j0)), ov (ov H ((1, tcl n lim a kd pl w le nu tk (Int32.ofNat 0) fp) :: (2, bcl bs) :: [(13, dcl13 P Dn lw cl id gl bo), (14, lng pn), (15, ia ri), (16, ia lf), (17, ia wa), (18, ia fo), (19, lng dn), (20, ia ha), (21, ia pa), (22, ia bl), (105, bkc o bv), (106, ia u1), (107, ia u2), (108, ia u3), (109, ia u4)])) [(1, tcl n lim a kd pl w le nu tk (Int32.ofNat 0) fp)]) := by
            refine FR_st2 (l2 := ((1, tcl n lim a kd pl w le nu tk (Int32.ofNat 0) fp) :: (2, bcl bs) :: [(13, dcl13 P Dn lw cl id gl bo), (14, lng pn), (15, ia ri), (16, ia lf), (17, ia wa), (18, ia fo), (19, lng dn), (20, ia ha), (21, ia pa), (22, ia bl), (105, bkc o bv), (106, ia u1), (107, ia u2), (108, ia u3), (109, ia u4)])) rfl rfl rfl ?_
            refine RT_step (pc2 := 1) rfl (fun _ _ => rfl) ?_
            refine ow_gf rfl rfl rfl hlen rfl ?_
            refine RT_step (pc2 := 7) rfl (fun _ _ => rfl) ?_
            refine rt_acE rfl (by omega) (by omega) ?_
            refine RT_if c ?_
            refine RT_step (pc2 := 19) rfl (fun _ _ => rfl) ?_
            refine RT_step (pc2 := 20) rfl (fun _ _ => rfl) ?_
            refine RT_step (pc2 := 21) rfl (fun _ _ => rfl) ?_
            refine ow_gf rfl rfl rfl hlen rfl ?_
            refine ow_is1 rfl rfl rfl rfl rfl ((x_find14 (ov_hl hlen) (ov_at rfl (ov_lt hlen (by decide))) (by omega) (by omega)).up (by decide)) rfl ?_
            rw [show fdI (fd pn le 0 P 0) = Int32.ofNat j0 from by rw [e0]; rfl]
            refine RT_step (pc2 := 28) rfl (fun _ _ => rfl) ?_
            refine RT_step (pc2 := 29) rfl (fun _ _ => rfl) ?_
            refine rt_ico rfl ki_m1 ?_
            refine biF_ne rfl (n_m1 (by omega)) ?_
            refine RT_step (pc2 := 40) rfl (fun _ _ => rfl) ?_
            exact ow_irt rfl rfl rfl
          have hy : FR 3 73 [.ref 13, .ref 1] (ov H ((1, tcl n lim a kd pl w le nu tk (Int32.ofNat 0) fp) :: (2, bcl bs) :: [(13, dcl13 P Dn lw cl id gl bo), (14, lng pn), (15, ia ri), (16, ia lf), (17, ia wa), (18, ia fo), (19, lng dn), (20, ia ha), (21, ia pa), (22, ia bl), (105, bkc o bv), (106, ia u1), (107, ia u2), (108, ia u3), (109, ia u4)])) (some (.int (Int32.ofNat j0)), ov (ov H ((1, tcl n lim a kd pl w le nu tk (Int32.ofNat 0) fp) :: (2, bcl bs) :: [(13, dcl13 P Dn lw cl id gl bo), (14, lng pn), (15, ia ri), (16, ia lf), (17, ia wa), (18, ia fo), (19, lng dn), (20, ia ha), (21, ia pa), (22, ia bl), (105, bkc o bv), (106, ia u1), (107, ia u2), (108, ia u3), (109, ia u4)])) [(1, tcl n lim a kd pl w le nu tk (Int32.ofNat 0) fp)]) := by
            refine FR_st2 (l2 := ((1, tcl n lim a kd pl w le nu tk (Int32.ofNat 0) fp) :: (2, bcl bs) :: [(13, dcl13 P Dn lw cl id gl bo), (14, lng pn), (15, ia ri), (16, ia lf), (17, ia wa), (18, ia fo), (19, lng dn), (20, ia ha), (21, ia pa), (22, ia bl), (105, bkc o bv), (106, ia u1), (107, ia u2), (108, ia u3), (109, ia u4)])) rfl rfl rfl ?_
            refine RT_step (pc2 := 1) rfl (fun _ _ => rfl) ?_
            refine RT_step (pc2 := 2) rfl (fun _ _ => rfl) ?_
            refine ow_gf rfl rfl rfl hlen rfl ?_
            refine RT_step (pc2 := 6) rfl (fun _ _ => rfl) ?_
            refine ow_gf rfl rfl rfl hlen rfl ?_
            refine ow_is1 (l2 := ((1, tcl n lim a kd pl w le nu tk (Int32.ofNat 0) fp) :: (2, bcl bs) :: [(13, dcl13 P Dn lw cl id gl bo), (14, lng pn), (15, ia ri), (16, ia lf), (17, ia wa), (18, ia fo), (19, lng dn), (20, ia ha), (21, ia pa), (22, ia bl), (105, bkc o bv), (106, ia u1), (107, ia u2), (108, ia u3), (109, ia u4)])) rfl rfl rfl rfl rfl (hz.up (by decide)) rfl ?_
            exact ow_irt rfl rfl rfl
          refine FR_st2 (l2 := ((1, T) :: (2, bcl bs) :: [(13, dcl13 P Dn lw cl id gl bo), (14, lng pn), (15, ia ri), (16, ia lf), (17, ia wa), (18, ia fo), (19, lng dn), (20, ia ha), (21, ia pa), (22, ia bl), (105, bkc o bv), (106, ia u1), (107, ia u2), (108, ia u3), (109, ia u4)])) rfl rfl rfl ?_
          refine RT_step (pc2 := 1) rfl (fun _ _ => rfl) ?_
          refine RT_step (pc2 := 2) rfl (fun _ _ => rfl) ?_
          refine ow_iv1 (l2 := ((1, tcl n lim a kd pl w le nu tk (Int32.ofNat 0) fp) :: (2, bcl bs) :: [(13, dcl13 P Dn lw cl id gl bo), (14, lng pn), (15, ia ri), (16, ia lf), (17, ia wa), (18, ia fo), (19, lng dn), (20, ia ha), (21, ia pa), (22, ia bl), (105, bkc o bv), (106, ia u1), (107, ia u2), (108, ia u3), (109, ia u4)])) rfl rfl rfl rfl hlen rfl rfl rfl (hy.up (by decide)) rfl ?_
          refine RT_step (pc2 := 6) rfl (fun _ _ => rfl) ?_
          refine RT_step (pc2 := 7) rfl (fun _ _ => rfl) ?_
          refine rt_ico rfl ki_m1 ?_
          refine biF_ne rfl (n_m1 (by omega)) ?_
          refine RT_step (pc2 := 14) rfl (fun _ _ => rfl) ?_
          refine ow_gf rfl rfl rfl hlen rfl ?_
          refine rt_bip rfl k8_40 ?_
          refine biT_lt rfl (n_lt (by omega) (by omega)) ?_
          refine RT_step (pc2 := 29) rfl (fun _ _ => rfl) ?_
          refine ow_iv0 (l2 := ((1, tcl n lim a1 kd1 pl1 w1 le1 nu1 tk (Int32.ofNat 0) fp1) :: (2, bcl bs) :: [(13, dcl13 P Dn lw cl id gl bo), (14, lng pn), (15, ia ri), (16, ia lf), (17, ia wa), (18, ia fo), (19, lng dn), (20, ia ha), (21, ia pa), (22, ia bl), (105, bkc o bv), (106, ia u1), (107, ia u2), (108, ia u3), (109, ia u4)])) rfl rfl rfl rfl hlen rfl rfl rfl ((x1 _ (ov_hl hlen) (ov_at rfl (ov_lt hlen (by decide))) (ov_at rfl (ov_lt hlen (by decide)))).up (by decide)) rfl ?_
          refine RT_step (pc2 := 33) rfl (fun _ _ => rfl) ?_
          refine ow_gf rfl rfl rfl hlen rfl ?_
          refine RT_step (pc2 := 38) rfl (fun _ _ => rfl) ?_
          refine RT_step (pc2 := 41) rfl (fun _ _ => rfl) ?_
          refine RT_step (pc2 := 43) rfl (fun _ _ => rfl) ?_
          refine rt_ord rfl hw1 rfl ?_
          refine rt_isw rfl (sw_rd hw1) ?_
          refine rt_tsD (t := 132) rfl sw rfl ?_
          refine RT_step (pc2 := 133) rfl (fun _ _ => rfl) ?_
          refine rt_ico rfl ki_1 ?_
          refine ow_iv1 (l2 := ((1, T) :: (2, bcl bs) :: [(13, dcl13 P Dn lw cl id gl bo), (14, lng pn), (15, ia ri), (16, ia lf), (17, ia wa), (18, ia fo), (19, lng dn), (20, ia ha), (21, ia pa), (22, ia bl), (105, bkc o bv), (106, ia u1), (107, ia u2), (108, ia u3), (109, ia u4)])) rfl rfl rfl rfl hlen rfl rfl rfl ((hx _ (ov_hl hlen) (ov_at rfl (ov_lt hlen (by decide))) (ov_at rfl (ov_lt hlen (by decide)))).up (by decide)) rfl ?_
          exact ow_irt rfl rfl rfl
        · have hv2 : FR 8 250 [.ref 180, .int (Int32.ofNat (4 * o))] (ov H ((180, mcl (Int32.ofNat 0) (Int32.ofNat 0) n lim a1 pl1 (km kd1) nm1 sg1 (Int32.ofNat 0) qm1 wd1 td (posb vs o)) :: (181, mtl ts) :: [(182, ia nw), (187, lng nz), (200, ia ((((li.set (4 * o) (Int32.ofNat 5)).set (4 * o + 1) (Int32.ofNat j0)).set (4 * o + 2) (Int32.ofNat 0)).set (4 * o + 3) (Int32.ofNat 0)))])) (some (.int (Int32.ofNat 0)), ov (ov H ((180, mcl (Int32.ofNat 0) (Int32.ofNat 0) n lim a1 pl1 (km kd1) nm1 sg1 (Int32.ofNat 0) qm1 wd1 td (posb vs o)) :: (181, mtl ts) :: [(182, ia nw), (187, lng nz), (200, ia ((((li.set (4 * o) (Int32.ofNat 5)).set (4 * o + 1) (Int32.ofNat j0)).set (4 * o + 2) (Int32.ofNat 0)).set (4 * o + 3) (Int32.ofNat 0)))])) [(180, M)]) := by
            refine FR_st2 (l2 := ((180, M) :: (181, mtl ts) :: [(182, ia nw), (187, lng nz), (200, ia ((((li.set (4 * o) (Int32.ofNat 5)).set (4 * o + 1) (Int32.ofNat j0)).set (4 * o + 2) (Int32.ofNat 0)).set (4 * o + 3) (Int32.ofNat 0)))])) rfl rfl rfl ?_
            refine rt_bip rfl k8_8 ?_
            refine RT_step (pc2 := 3) rfl (fun _ _ => rfl) ?_
            refine m_vl (z := Int32.ofNat (4 * o)) hlen (km_is kd1 t1.2.2.2.1).2.2.2.2.2 5 8 _ rfl rfl rfl rfl (fun L2 l0 l1 lw => ?_)
            rw [wj_le t1 5 8 (by decide), jv] at lw
            refine rt_ild rfl lw ?_
            refine rt_bip rfl k8_12 ?_
            refine biF_le rfl (n_nle (by decide) (by decide)) ?_
            refine rt_ald rfl l0 ?_
            refine rt_ico rfl ki_1 ?_
            refine ow_iv1 (l2 := ((180, M) :: (181, mtl ts) :: [(182, ia nw), (187, lng nz), (200, ia ((((li.set (4 * o) (Int32.ofNat 5)).set (4 * o + 1) (Int32.ofNat j0)).set (4 * o + 2) (Int32.ofNat 0)).set (4 * o + 3) (Int32.ofNat 0)))])) rfl rfl rfl rfl hlen rfl rfl rfl ((hm _ (ov_hl hlen) (ov_at rfl (ov_lt hlen (by decide))) (ov_at rfl (ov_lt hlen (by decide)))).up (by omega)) rfl ?_
            exact ow_irt rfl rfl rfl
          refine FR_st2 (l2 := ((180, M) :: (181, mtl ts) :: [(182, ia nw), (187, lng nz), (200, ia ((((li.set (4 * o) (Int32.ofNat 5)).set (4 * o + 1) (Int32.ofNat j0)).set (4 * o + 2) (Int32.ofNat 0)).set (4 * o + 3) (Int32.ofNat 0)))])) rfl rfl rfl ?_
          refine RT_step (pc2 := 1) rfl (fun _ _ => rfl) ?_
          refine rt_bip rfl k8_16 ?_
          refine ow_iv1 (l2 := ((180, mcl (Int32.ofNat 0) (Int32.ofNat 0) n lim a pl (km kd) nm sg (Int32.ofNat 0) qm wd td (posb vs o)) :: (181, mtl ts) :: [(182, ia nw), (187, lng nz), (200, ia li)])) rfl rfl rfl rfl hlen rfl rfl rfl ((m_isWord (k := 16) (ov_hl hlen) (ov_at rfl (ov_lt hlen (by decide))) (km_is kd t.2.2.2.1).2.2.2.2.2 (by decide)).up (by omega)) rfl ?_
          refine RT_step (pc2 := 7) rfl (fun _ _ => rfl) ?_
          refine RT_step (pc2 := 8) rfl (fun _ _ => rfl) ?_
          refine bcT_ne rfl (b01_f hd0) ?_
          refine RT_step (pc2 := 12) rfl (fun _ _ => rfl) ?_
          refine ow_iv1 (l2 := ((180, mcl (Int32.ofNat 0) (Int32.ofNat 0) n lim a pl (km kd) nm sg (Int32.ofNat 0) qm wd td (posb vs o)) :: (181, mtl ts) :: [(182, ia nw), (187, lng nz), (200, ia li)])) rfl rfl rfl rfl hlen rfl rfl rfl ((m_isName (ov_hl hlen) (ov_at rfl (ov_lt hlen (by decide))) (km_is kd t.2.2.2.1).2.2.2.2.2).up (by omega)) rfl ?_
          refine bcF_ne rfl (b01_t hnm) ?_
          refine RT_step (pc2 := 25) rfl (fun _ _ => rfl) ?_
          refine ow_gf rfl rfl rfl hlen rfl ?_
          refine rt_ico rfl ki_0 ?_
          refine RT_step (pc2 := 30) rfl (fun _ _ => rfl) ?_
          refine ow_gf rfl rfl rfl hlen rfl ?_
          refine rt_ico rfl ki_0 ?_
          refine ow_ialN rfl rfl hv (by omega) hlen rfl ?_
          refine RT_step (pc2 := 36) rfl (fun _ _ => rfl) ?_
          refine ow_gf rfl rfl rfl hlen rfl ?_
          refine ow_is1 (l2 := ((180, mcl (Int32.ofNat 0) (Int32.ofNat 0) n lim a pl (km kd) nm sg (Int32.ofNat 0) qm wd td (posb vs o)) :: (181, mtl ts) :: [(182, ia nw), (187, lng nz), (200, ia li)])) rfl rfl rfl rfl rfl ((m_find7 (bs0 := 0) (cnt := P) (ov_hl hlen) (ov_at rfl (ov_lt hlen (by decide))) (by omega) (by omega)).up (by omega)) rfl ?_
          rw [show fdI (fd nz wd 0 P 0) = Int32.ofNat j0 from by rw [g0]; rfl]
          refine rt_ico rfl ki_m1 ?_
          refine biF_ne rfl (n_m1 (by omega)) ?_
          refine RT_step (pc2 := 53) rfl (fun _ _ => rfl) ?_
          refine ow_gf rfl rfl rfl hlen rfl ?_
          refine rt_bip rfl k8_40 ?_
          refine biF_ne rfl (n_ne co (by omega) (by omega)) ?_
          refine rt_ico rfl ki_4 ?_
          refine RT_step (pc2 := 69) rfl (fun _ _ => rfl) ?_
          refine ow_gf rfl rfl rfl hlen rfl ?_
          refine ba_imul rfl ?_
          rw [nmul4]
          refine RT_step (pc2 := 74) rfl (fun _ _ => rfl) ?_
          refine RT_step (pc2 := 75) rfl (fun _ _ => rfl) ?_
          refine ow_gf rfl rfl rfl hlen rfl ?_
          refine RT_step (pc2 := 79) rfl (fun _ _ => rfl) ?_
          refine rt_ico rfl ki_5 ?_
          refine ow_iasN (l2 := ((180, mcl (Int32.ofNat 0) (Int32.ofNat 0) n lim a pl (km kd) nm sg (Int32.ofNat 0) qm wd td (posb vs o)) :: (181, mtl ts) :: [(182, ia nw), (187, lng nz), (200, ia (li.set (4 * o) (Int32.ofNat 5)))])) rfl rfl (by (try simp only [List.length_set]); omega) (by omega) hlen rfl rfl ?_
          refine RT_step (pc2 := 82) rfl (fun _ _ => rfl) ?_
          refine ow_gf rfl rfl rfl hlen rfl ?_
          refine RT_step (pc2 := 86) rfl (fun _ _ => rfl) ?_
          refine rt_ico rfl ki_1 ?_
          refine ba_iadd rfl ?_
          rw [n_add]
          refine RT_step (pc2 := 89) rfl (fun _ _ => rfl) ?_
          refine bcT_eq rfl (b01_f hd0) ?_
          refine RT_step (pc2 := 97) rfl (fun _ _ => rfl) ?_
          refine ow_gf rfl rfl rfl hlen rfl ?_
          refine rt_ico rfl ki_0 ?_
          refine RT_step (pc2 := 102) rfl (fun _ _ => rfl) ?_
          refine ow_gf rfl rfl rfl hlen rfl ?_
          refine rt_ico rfl ki_0 ?_
          refine ow_ialN rfl rfl hv (by omega) hlen rfl ?_
          refine RT_step (pc2 := 108) rfl (fun _ _ => rfl) ?_
          refine ow_gf rfl rfl rfl hlen rfl ?_
          refine ow_is1 (l2 := ((180, mcl (Int32.ofNat 0) (Int32.ofNat 0) n lim a pl (km kd) nm sg (Int32.ofNat 0) qm wd td (posb vs o)) :: (181, mtl ts) :: [(182, ia nw), (187, lng nz), (200, ia (li.set (4 * o) (Int32.ofNat 5)))])) rfl rfl rfl rfl rfl ((m_find7 (bs0 := 0) (cnt := P) (ov_hl hlen) (ov_at rfl (ov_lt hlen (by decide))) (by omega) (by omega)).up (by omega)) rfl ?_
          rw [show fdI (fd nz wd 0 P 0) = Int32.ofNat j0 from by rw [g0]; rfl]
          refine ow_iasN (l2 := ((180, mcl (Int32.ofNat 0) (Int32.ofNat 0) n lim a pl (km kd) nm sg (Int32.ofNat 0) qm wd td (posb vs o)) :: (181, mtl ts) :: [(182, ia nw), (187, lng nz), (200, ia ((li.set (4 * o) (Int32.ofNat 5)).set (4 * o + 1) (Int32.ofNat j0)))])) rfl rfl (by (try simp only [List.length_set]); omega) (by omega) hlen rfl rfl ?_
          refine RT_step (pc2 := 116) rfl (fun _ _ => rfl) ?_
          refine ow_gf rfl rfl rfl hlen rfl ?_
          refine RT_step (pc2 := 120) rfl (fun _ _ => rfl) ?_
          refine rt_ico rfl ki_2 ?_
          refine ba_iadd rfl ?_
          rw [n_add]
          refine rt_ico rfl ki_0 ?_
          refine ow_iasN (l2 := ((180, mcl (Int32.ofNat 0) (Int32.ofNat 0) n lim a pl (km kd) nm sg (Int32.ofNat 0) qm wd td (posb vs o)) :: (181, mtl ts) :: [(182, ia nw), (187, lng nz), (200, ia (((li.set (4 * o) (Int32.ofNat 5)).set (4 * o + 1) (Int32.ofNat j0)).set (4 * o + 2) (Int32.ofNat 0)))])) rfl rfl (by (try simp only [List.length_set]); omega) (by omega) hlen rfl rfl ?_
          refine RT_step (pc2 := 125) rfl (fun _ _ => rfl) ?_
          refine ow_gf rfl rfl rfl hlen rfl ?_
          refine RT_step (pc2 := 129) rfl (fun _ _ => rfl) ?_
          refine rt_ico rfl ki_3 ?_
          refine ba_iadd rfl ?_
          rw [n_add]
          refine rt_ico rfl ki_0 ?_
          refine ow_iasN (l2 := ((180, mcl (Int32.ofNat 0) (Int32.ofNat 0) n lim a pl (km kd) nm sg (Int32.ofNat 0) qm wd td (posb vs o)) :: (181, mtl ts) :: [(182, ia nw), (187, lng nz), (200, ia ((((li.set (4 * o) (Int32.ofNat 5)).set (4 * o + 1) (Int32.ofNat j0)).set (4 * o + 2) (Int32.ofNat 0)).set (4 * o + 3) (Int32.ofNat 0)))])) rfl rfl (by (try simp only [List.length_set]); omega) (by omega) hlen rfl rfl ?_
          refine RT_step (pc2 := 134) rfl (fun _ _ => rfl) ?_
          refine ow_iv0 (l2 := ((180, mcl (Int32.ofNat 0) (Int32.ofNat 0) n lim a1 pl1 (km kd1) nm1 sg1 (Int32.ofNat 0) qm1 wd1 td (posb vs o)) :: (181, mtl ts) :: [(182, ia nw), (187, lng nz), (200, ia ((((li.set (4 * o) (Int32.ofNat 5)).set (4 * o + 1) (Int32.ofNat j0)).set (4 * o + 2) (Int32.ofNat 0)).set (4 * o + 3) (Int32.ofNat 0)))])) rfl rfl rfl rfl hlen rfl rfl rfl ((m1 _ (ov_hl hlen) (ov_at rfl (ov_lt hlen (by decide))) (ov_at rfl (ov_lt hlen (by decide)))).up (by omega)) rfl ?_
          refine RT_step (pc2 := 138) rfl (fun _ _ => rfl) ?_
          refine bcT_eq rfl (b01_f hd0) ?_
          refine RT_step (pc2 := 162) rfl (fun _ _ => rfl) ?_
          refine RT_step (pc2 := 163) rfl (fun _ _ => rfl) ?_
          refine ow_iv1 (l2 := ((180, M) :: (181, mtl ts) :: [(182, ia nw), (187, lng nz), (200, ia ((((li.set (4 * o) (Int32.ofNat 5)).set (4 * o + 1) (Int32.ofNat j0)).set (4 * o + 2) (Int32.ofNat 0)).set (4 * o + 3) (Int32.ofNat 0)))])) rfl rfl rfl rfl hlen rfl rfl rfl (hv2.up (by omega)) rfl ?_
          refine bcT_eq rfl rfl ?_
          refine rt_ico rfl ki_0 ?_
          exact ow_irt rfl rfl rfl
      · subst cv
        have hk11 := w_k1 t1 (by decide)
        rcases b_does13 (vs := vs) (bv := bv) (pl := pl1) (tk := tk) (td := td) (fp := fp1) (qm := qm1) hB hM hb hn hl t1 (by omega) (by omega) jv hP hDn lp ld lz hv hv1 hN hN2 bx (li := ((((li.set (4 * o) (Int32.ofNat 5)).set (4 * o + 1) (Int32.ofNat j0)).set (4 * o + 2) (Int32.ofNat 0)).set (4 * o + 3) (Int32.ofNat 0))) ln4 ho (z := (Int32.ofNat j0)) with ⟨T, M, li2, f, ln2, h⟩ | ⟨k2, tk2, td2, T, M, v1, v2, v3, v4, li2, c2, bx2, ln2, h⟩
        · refine Or.inl ⟨T, M, li2, f, ln2, fun H hlen => ?_, fun H hlen => ?_⟩
          · have hz : FR 2 71 [.ref 1, .ref 14, .int (Int32.ofNat P)] (ov H ((1, tcl n lim a kd pl w le nu tk (Int32.ofNat 0) fp) :: (2, bcl bs) :: [(13, dcl13 P Dn lw cl id gl bo), (14, lng pn), (15, ia ri), (16, ia lf), (17, ia wa), (18, ia fo), (19, lng dn), (20, ia ha), (21, ia pa), (22, ia bl), (105, bkc o bv), (106, ia u1), (107, ia u2), (108, ia u3), (109, ia u4)])) (some (.int (Int32.ofNat j0)), ov (ov H ((1, tcl n lim a kd pl w le nu tk (Int32.ofNat 0) fp) :: (2, bcl bs) :: [(13, dcl13 P Dn lw cl id gl bo), (14, lng pn), (15, ia ri), (16, ia lf), (17, ia wa), (18, ia fo), (19, lng dn), (20, ia ha), (21, ia pa), (22, ia bl), (105, bkc o bv), (106, ia u1), (107, ia u2), (108, ia u3), (109, ia u4)])) [(1, tcl n lim a kd pl w le nu tk (Int32.ofNat 0) fp)]) := by
              refine FR_st2 (l2 := ((1, tcl n lim a kd pl w le nu tk (Int32.ofNat 0) fp) :: (2, bcl bs) :: [(13, dcl13 P Dn lw cl id gl bo), (14, lng pn), (15, ia ri), (16, ia lf), (17, ia wa), (18, ia fo), (19, lng dn), (20, ia ha), (21, ia pa), (22, ia bl), (105, bkc o bv), (106, ia u1), (107, ia u2), (108, ia u3), (109, ia u4)])) rfl rfl rfl ?_
              refine RT_step (pc2 := 1) rfl (fun _ _ => rfl) ?_
              refine ow_gf rfl rfl rfl hlen rfl ?_
              refine RT_step (pc2 := 7) rfl (fun _ _ => rfl) ?_
              refine rt_acE rfl (by omega) (by omega) ?_
              refine RT_if c ?_
              refine RT_step (pc2 := 19) rfl (fun _ _ => rfl) ?_
              refine RT_step (pc2 := 20) rfl (fun _ _ => rfl) ?_
              refine RT_step (pc2 := 21) rfl (fun _ _ => rfl) ?_
              refine ow_gf rfl rfl rfl hlen rfl ?_
              refine ow_is1 rfl rfl rfl rfl rfl ((x_find14 (ov_hl hlen) (ov_at rfl (ov_lt hlen (by decide))) (by omega) (by omega)).up (by decide)) rfl ?_
              rw [show fdI (fd pn le 0 P 0) = Int32.ofNat j0 from by rw [e0]; rfl]
              refine RT_step (pc2 := 28) rfl (fun _ _ => rfl) ?_
              refine RT_step (pc2 := 29) rfl (fun _ _ => rfl) ?_
              refine rt_ico rfl ki_m1 ?_
              refine biF_ne rfl (n_m1 (by omega)) ?_
              refine RT_step (pc2 := 40) rfl (fun _ _ => rfl) ?_
              exact ow_irt rfl rfl rfl
            have hy : FR 3 73 [.ref 13, .ref 1] (ov H ((1, tcl n lim a kd pl w le nu tk (Int32.ofNat 0) fp) :: (2, bcl bs) :: [(13, dcl13 P Dn lw cl id gl bo), (14, lng pn), (15, ia ri), (16, ia lf), (17, ia wa), (18, ia fo), (19, lng dn), (20, ia ha), (21, ia pa), (22, ia bl), (105, bkc o bv), (106, ia u1), (107, ia u2), (108, ia u3), (109, ia u4)])) (some (.int (Int32.ofNat j0)), ov (ov H ((1, tcl n lim a kd pl w le nu tk (Int32.ofNat 0) fp) :: (2, bcl bs) :: [(13, dcl13 P Dn lw cl id gl bo), (14, lng pn), (15, ia ri), (16, ia lf), (17, ia wa), (18, ia fo), (19, lng dn), (20, ia ha), (21, ia pa), (22, ia bl), (105, bkc o bv), (106, ia u1), (107, ia u2), (108, ia u3), (109, ia u4)])) [(1, tcl n lim a kd pl w le nu tk (Int32.ofNat 0) fp)]) := by
              refine FR_st2 (l2 := ((1, tcl n lim a kd pl w le nu tk (Int32.ofNat 0) fp) :: (2, bcl bs) :: [(13, dcl13 P Dn lw cl id gl bo), (14, lng pn), (15, ia ri), (16, ia lf), (17, ia wa), (18, ia fo), (19, lng dn), (20, ia ha), (21, ia pa), (22, ia bl), (105, bkc o bv), (106, ia u1), (107, ia u2), (108, ia u3), (109, ia u4)])) rfl rfl rfl ?_
              refine RT_step (pc2 := 1) rfl (fun _ _ => rfl) ?_
              refine RT_step (pc2 := 2) rfl (fun _ _ => rfl) ?_
              refine ow_gf rfl rfl rfl hlen rfl ?_
              refine RT_step (pc2 := 6) rfl (fun _ _ => rfl) ?_
              refine ow_gf rfl rfl rfl hlen rfl ?_
              refine ow_is1 (l2 := ((1, tcl n lim a kd pl w le nu tk (Int32.ofNat 0) fp) :: (2, bcl bs) :: [(13, dcl13 P Dn lw cl id gl bo), (14, lng pn), (15, ia ri), (16, ia lf), (17, ia wa), (18, ia fo), (19, lng dn), (20, ia ha), (21, ia pa), (22, ia bl), (105, bkc o bv), (106, ia u1), (107, ia u2), (108, ia u3), (109, ia u4)])) rfl rfl rfl rfl rfl (hz.up (by decide)) rfl ?_
              exact ow_irt rfl rfl rfl
            refine FR_st2 (l2 := ((1, T) :: (2, bcl bs) :: [(13, dcl13 P Dn lw cl id gl bo), (14, lng pn), (15, ia ri), (16, ia lf), (17, ia wa), (18, ia fo), (19, lng dn), (20, ia ha), (21, ia pa), (22, ia bl), (105, bkc o bv), (106, ia u1), (107, ia u2), (108, ia u3), (109, ia u4)])) rfl rfl rfl ?_
            refine RT_step (pc2 := 1) rfl (fun _ _ => rfl) ?_
            refine RT_step (pc2 := 2) rfl (fun _ _ => rfl) ?_
            refine ow_iv1 (l2 := ((1, tcl n lim a kd pl w le nu tk (Int32.ofNat 0) fp) :: (2, bcl bs) :: [(13, dcl13 P Dn lw cl id gl bo), (14, lng pn), (15, ia ri), (16, ia lf), (17, ia wa), (18, ia fo), (19, lng dn), (20, ia ha), (21, ia pa), (22, ia bl), (105, bkc o bv), (106, ia u1), (107, ia u2), (108, ia u3), (109, ia u4)])) rfl rfl rfl rfl hlen rfl rfl rfl (hy.up (by decide)) rfl ?_
            refine RT_step (pc2 := 6) rfl (fun _ _ => rfl) ?_
            refine RT_step (pc2 := 7) rfl (fun _ _ => rfl) ?_
            refine rt_ico rfl ki_m1 ?_
            refine biF_ne rfl (n_m1 (by omega)) ?_
            refine RT_step (pc2 := 14) rfl (fun _ _ => rfl) ?_
            refine ow_gf rfl rfl rfl hlen rfl ?_
            refine rt_bip rfl k8_40 ?_
            refine biT_lt rfl (n_lt (by omega) (by omega)) ?_
            refine RT_step (pc2 := 29) rfl (fun _ _ => rfl) ?_
            refine ow_iv0 (l2 := ((1, tcl n lim a1 kd1 pl1 11 le1 nu1 tk (Int32.ofNat 0) fp1) :: (2, bcl bs) :: [(13, dcl13 P Dn lw cl id gl bo), (14, lng pn), (15, ia ri), (16, ia lf), (17, ia wa), (18, ia fo), (19, lng dn), (20, ia ha), (21, ia pa), (22, ia bl), (105, bkc o bv), (106, ia u1), (107, ia u2), (108, ia u3), (109, ia u4)])) rfl rfl rfl rfl hlen rfl rfl rfl ((x1 _ (ov_hl hlen) (ov_at rfl (ov_lt hlen (by decide))) (ov_at rfl (ov_lt hlen (by decide)))).up (by decide)) rfl ?_
            refine RT_step (pc2 := 33) rfl (fun _ _ => rfl) ?_
            refine ow_gf rfl rfl rfl hlen rfl ?_
            refine RT_step (pc2 := 38) rfl (fun _ _ => rfl) ?_
            refine RT_step (pc2 := 41) rfl (fun _ _ => rfl) ?_
            refine RT_step (pc2 := 43) rfl (fun _ _ => rfl) ?_
            refine rt_ord rfl (by decide) rfl ?_
            refine rt_isw rfl (v := 8) (by decide +kernel) ?_
            refine RT_step (pc2 := 80) rfl (fun _ _ => rfl) ?_
            refine RT_step (pc2 := 81) rfl (fun _ _ => rfl) ?_
            refine RT_step (pc2 := 82) rfl (fun _ _ => rfl) ?_
            refine RT_step (pc2 := 83) rfl (fun _ _ => rfl) ?_
            refine RT_step (pc2 := 84) rfl (fun _ _ => rfl) ?_
            refine ow_iv1 (l2 := ((1, T) :: (2, bcl bs) :: [(13, dcl13 P Dn lw cl id gl bo), (14, lng pn), (15, ia ri), (16, ia lf), (17, ia wa), (18, ia fo), (19, lng dn), (20, ia ha), (21, ia pa), (22, ia bl), (105, bkc o bv), (106, ia u1), (107, ia u2), (108, ia u3), (109, ia u4)])) rfl rfl rfl rfl hlen rfl rfl rfl ((h.1 H hlen).up (by decide)) rfl ?_
            exact ow_irt rfl rfl rfl
          · refine FR_st2 (l2 := ((180, M) :: (181, mtl ts) :: [(182, ia nw), (187, lng nz), (200, ia li2)])) rfl rfl rfl ?_
            refine RT_step (pc2 := 1) rfl (fun _ _ => rfl) ?_
            refine rt_bip rfl k8_16 ?_
            refine ow_iv1 (l2 := ((180, mcl (Int32.ofNat 0) (Int32.ofNat 0) n lim a pl (km kd) nm sg (Int32.ofNat 0) qm wd td (posb vs o)) :: (181, mtl ts) :: [(182, ia nw), (187, lng nz), (200, ia li)])) rfl rfl rfl rfl hlen rfl rfl rfl ((m_isWord (k := 16) (ov_hl hlen) (ov_at rfl (ov_lt hlen (by decide))) (km_is kd t.2.2.2.1).2.2.2.2.2 (by decide)).up (by omega)) rfl ?_
            refine RT_step (pc2 := 7) rfl (fun _ _ => rfl) ?_
            refine RT_step (pc2 := 8) rfl (fun _ _ => rfl) ?_
            refine bcT_ne rfl (b01_f hd0) ?_
            refine RT_step (pc2 := 12) rfl (fun _ _ => rfl) ?_
            refine ow_iv1 (l2 := ((180, mcl (Int32.ofNat 0) (Int32.ofNat 0) n lim a pl (km kd) nm sg (Int32.ofNat 0) qm wd td (posb vs o)) :: (181, mtl ts) :: [(182, ia nw), (187, lng nz), (200, ia li)])) rfl rfl rfl rfl hlen rfl rfl rfl ((m_isName (ov_hl hlen) (ov_at rfl (ov_lt hlen (by decide))) (km_is kd t.2.2.2.1).2.2.2.2.2).up (by omega)) rfl ?_
            refine bcF_ne rfl (b01_t hnm) ?_
            refine RT_step (pc2 := 25) rfl (fun _ _ => rfl) ?_
            refine ow_gf rfl rfl rfl hlen rfl ?_
            refine rt_ico rfl ki_0 ?_
            refine RT_step (pc2 := 30) rfl (fun _ _ => rfl) ?_
            refine ow_gf rfl rfl rfl hlen rfl ?_
            refine rt_ico rfl ki_0 ?_
            refine ow_ialN rfl rfl hv (by omega) hlen rfl ?_
            refine RT_step (pc2 := 36) rfl (fun _ _ => rfl) ?_
            refine ow_gf rfl rfl rfl hlen rfl ?_
            refine ow_is1 (l2 := ((180, mcl (Int32.ofNat 0) (Int32.ofNat 0) n lim a pl (km kd) nm sg (Int32.ofNat 0) qm wd td (posb vs o)) :: (181, mtl ts) :: [(182, ia nw), (187, lng nz), (200, ia li)])) rfl rfl rfl rfl rfl ((m_find7 (bs0 := 0) (cnt := P) (ov_hl hlen) (ov_at rfl (ov_lt hlen (by decide))) (by omega) (by omega)).up (by omega)) rfl ?_
            rw [show fdI (fd nz wd 0 P 0) = Int32.ofNat j0 from by rw [g0]; rfl]
            refine rt_ico rfl ki_m1 ?_
            refine biF_ne rfl (n_m1 (by omega)) ?_
            refine RT_step (pc2 := 53) rfl (fun _ _ => rfl) ?_
            refine ow_gf rfl rfl rfl hlen rfl ?_
            refine rt_bip rfl k8_40 ?_
            refine biF_ne rfl (n_ne co (by omega) (by omega)) ?_
            refine rt_ico rfl ki_4 ?_
            refine RT_step (pc2 := 69) rfl (fun _ _ => rfl) ?_
            refine ow_gf rfl rfl rfl hlen rfl ?_
            refine ba_imul rfl ?_
            rw [nmul4]
            refine RT_step (pc2 := 74) rfl (fun _ _ => rfl) ?_
            refine RT_step (pc2 := 75) rfl (fun _ _ => rfl) ?_
            refine ow_gf rfl rfl rfl hlen rfl ?_
            refine RT_step (pc2 := 79) rfl (fun _ _ => rfl) ?_
            refine rt_ico rfl ki_5 ?_
            refine ow_iasN (l2 := ((180, mcl (Int32.ofNat 0) (Int32.ofNat 0) n lim a pl (km kd) nm sg (Int32.ofNat 0) qm wd td (posb vs o)) :: (181, mtl ts) :: [(182, ia nw), (187, lng nz), (200, ia (li.set (4 * o) (Int32.ofNat 5)))])) rfl rfl (by (try simp only [List.length_set]); omega) (by omega) hlen rfl rfl ?_
            refine RT_step (pc2 := 82) rfl (fun _ _ => rfl) ?_
            refine ow_gf rfl rfl rfl hlen rfl ?_
            refine RT_step (pc2 := 86) rfl (fun _ _ => rfl) ?_
            refine rt_ico rfl ki_1 ?_
            refine ba_iadd rfl ?_
            rw [n_add]
            refine RT_step (pc2 := 89) rfl (fun _ _ => rfl) ?_
            refine bcT_eq rfl (b01_f hd0) ?_
            refine RT_step (pc2 := 97) rfl (fun _ _ => rfl) ?_
            refine ow_gf rfl rfl rfl hlen rfl ?_
            refine rt_ico rfl ki_0 ?_
            refine RT_step (pc2 := 102) rfl (fun _ _ => rfl) ?_
            refine ow_gf rfl rfl rfl hlen rfl ?_
            refine rt_ico rfl ki_0 ?_
            refine ow_ialN rfl rfl hv (by omega) hlen rfl ?_
            refine RT_step (pc2 := 108) rfl (fun _ _ => rfl) ?_
            refine ow_gf rfl rfl rfl hlen rfl ?_
            refine ow_is1 (l2 := ((180, mcl (Int32.ofNat 0) (Int32.ofNat 0) n lim a pl (km kd) nm sg (Int32.ofNat 0) qm wd td (posb vs o)) :: (181, mtl ts) :: [(182, ia nw), (187, lng nz), (200, ia (li.set (4 * o) (Int32.ofNat 5)))])) rfl rfl rfl rfl rfl ((m_find7 (bs0 := 0) (cnt := P) (ov_hl hlen) (ov_at rfl (ov_lt hlen (by decide))) (by omega) (by omega)).up (by omega)) rfl ?_
            rw [show fdI (fd nz wd 0 P 0) = Int32.ofNat j0 from by rw [g0]; rfl]
            refine ow_iasN (l2 := ((180, mcl (Int32.ofNat 0) (Int32.ofNat 0) n lim a pl (km kd) nm sg (Int32.ofNat 0) qm wd td (posb vs o)) :: (181, mtl ts) :: [(182, ia nw), (187, lng nz), (200, ia ((li.set (4 * o) (Int32.ofNat 5)).set (4 * o + 1) (Int32.ofNat j0)))])) rfl rfl (by (try simp only [List.length_set]); omega) (by omega) hlen rfl rfl ?_
            refine RT_step (pc2 := 116) rfl (fun _ _ => rfl) ?_
            refine ow_gf rfl rfl rfl hlen rfl ?_
            refine RT_step (pc2 := 120) rfl (fun _ _ => rfl) ?_
            refine rt_ico rfl ki_2 ?_
            refine ba_iadd rfl ?_
            rw [n_add]
            refine rt_ico rfl ki_0 ?_
            refine ow_iasN (l2 := ((180, mcl (Int32.ofNat 0) (Int32.ofNat 0) n lim a pl (km kd) nm sg (Int32.ofNat 0) qm wd td (posb vs o)) :: (181, mtl ts) :: [(182, ia nw), (187, lng nz), (200, ia (((li.set (4 * o) (Int32.ofNat 5)).set (4 * o + 1) (Int32.ofNat j0)).set (4 * o + 2) (Int32.ofNat 0)))])) rfl rfl (by (try simp only [List.length_set]); omega) (by omega) hlen rfl rfl ?_
            refine RT_step (pc2 := 125) rfl (fun _ _ => rfl) ?_
            refine ow_gf rfl rfl rfl hlen rfl ?_
            refine RT_step (pc2 := 129) rfl (fun _ _ => rfl) ?_
            refine rt_ico rfl ki_3 ?_
            refine ba_iadd rfl ?_
            rw [n_add]
            refine rt_ico rfl ki_0 ?_
            refine ow_iasN (l2 := ((180, mcl (Int32.ofNat 0) (Int32.ofNat 0) n lim a pl (km kd) nm sg (Int32.ofNat 0) qm wd td (posb vs o)) :: (181, mtl ts) :: [(182, ia nw), (187, lng nz), (200, ia ((((li.set (4 * o) (Int32.ofNat 5)).set (4 * o + 1) (Int32.ofNat j0)).set (4 * o + 2) (Int32.ofNat 0)).set (4 * o + 3) (Int32.ofNat 0)))])) rfl rfl (by (try simp only [List.length_set]); omega) (by omega) hlen rfl rfl ?_
            refine RT_step (pc2 := 134) rfl (fun _ _ => rfl) ?_
            refine ow_iv0 (l2 := ((180, mcl (Int32.ofNat 0) (Int32.ofNat 0) n lim a1 pl1 (km kd1) nm1 sg1 (Int32.ofNat 0) qm1 wd1 td (posb vs o)) :: (181, mtl ts) :: [(182, ia nw), (187, lng nz), (200, ia ((((li.set (4 * o) (Int32.ofNat 5)).set (4 * o + 1) (Int32.ofNat j0)).set (4 * o + 2) (Int32.ofNat 0)).set (4 * o + 3) (Int32.ofNat 0)))])) rfl rfl rfl rfl hlen rfl rfl rfl ((m1 _ (ov_hl hlen) (ov_at rfl (ov_lt hlen (by decide))) (ov_at rfl (ov_lt hlen (by decide)))).up (by omega)) rfl ?_
            refine RT_step (pc2 := 138) rfl (fun _ _ => rfl) ?_
            refine bcT_eq rfl (b01_f hd0) ?_
            refine RT_step (pc2 := 162) rfl (fun _ _ => rfl) ?_
            refine RT_step (pc2 := 163) rfl (fun _ _ => rfl) ?_
            refine ow_iv1 (l2 := ((180, M) :: (181, mtl ts) :: [(182, ia nw), (187, lng nz), (200, ia li2)])) rfl rfl rfl rfl hlen rfl rfl rfl ((h.2 H hlen).up (by omega)) rfl ?_
            refine bcT_eq rfl rfl ?_
            refine rt_ico rfl ki_0 ?_
            exact ow_irt rfl rfl rfl
        · refine Or.inr ⟨ho, k2, tk2, td2, T, M, v1, v2, v3, v4, li2, c2, bx2, ln2, fun H hlen => ?_, fun H dd q hlen hq => ?_⟩
          · have hz : FR 2 71 [.ref 1, .ref 14, .int (Int32.ofNat P)] (ov H ((1, tcl n lim a kd pl w le nu tk (Int32.ofNat 0) fp) :: (2, bcl bs) :: [(13, dcl13 P Dn lw cl id gl bo), (14, lng pn), (15, ia ri), (16, ia lf), (17, ia wa), (18, ia fo), (19, lng dn), (20, ia ha), (21, ia pa), (22, ia bl), (105, bkc o bv), (106, ia u1), (107, ia u2), (108, ia u3), (109, ia u4)])) (some (.int (Int32.ofNat j0)), ov (ov H ((1, tcl n lim a kd pl w le nu tk (Int32.ofNat 0) fp) :: (2, bcl bs) :: [(13, dcl13 P Dn lw cl id gl bo), (14, lng pn), (15, ia ri), (16, ia lf), (17, ia wa), (18, ia fo), (19, lng dn), (20, ia ha), (21, ia pa), (22, ia bl), (105, bkc o bv), (106, ia u1), (107, ia u2), (108, ia u3), (109, ia u4)])) [(1, tcl n lim a kd pl w le nu tk (Int32.ofNat 0) fp)]) := by
              refine FR_st2 (l2 := ((1, tcl n lim a kd pl w le nu tk (Int32.ofNat 0) fp) :: (2, bcl bs) :: [(13, dcl13 P Dn lw cl id gl bo), (14, lng pn), (15, ia ri), (16, ia lf), (17, ia wa), (18, ia fo), (19, lng dn), (20, ia ha), (21, ia pa), (22, ia bl), (105, bkc o bv), (106, ia u1), (107, ia u2), (108, ia u3), (109, ia u4)])) rfl rfl rfl ?_
              refine RT_step (pc2 := 1) rfl (fun _ _ => rfl) ?_
              refine ow_gf rfl rfl rfl hlen rfl ?_
              refine RT_step (pc2 := 7) rfl (fun _ _ => rfl) ?_
              refine rt_acE rfl (by omega) (by omega) ?_
              refine RT_if c ?_
              refine RT_step (pc2 := 19) rfl (fun _ _ => rfl) ?_
              refine RT_step (pc2 := 20) rfl (fun _ _ => rfl) ?_
              refine RT_step (pc2 := 21) rfl (fun _ _ => rfl) ?_
              refine ow_gf rfl rfl rfl hlen rfl ?_
              refine ow_is1 rfl rfl rfl rfl rfl ((x_find14 (ov_hl hlen) (ov_at rfl (ov_lt hlen (by decide))) (by omega) (by omega)).up (by decide)) rfl ?_
              rw [show fdI (fd pn le 0 P 0) = Int32.ofNat j0 from by rw [e0]; rfl]
              refine RT_step (pc2 := 28) rfl (fun _ _ => rfl) ?_
              refine RT_step (pc2 := 29) rfl (fun _ _ => rfl) ?_
              refine rt_ico rfl ki_m1 ?_
              refine biF_ne rfl (n_m1 (by omega)) ?_
              refine RT_step (pc2 := 40) rfl (fun _ _ => rfl) ?_
              exact ow_irt rfl rfl rfl
            have hy : FR 3 73 [.ref 13, .ref 1] (ov H ((1, tcl n lim a kd pl w le nu tk (Int32.ofNat 0) fp) :: (2, bcl bs) :: [(13, dcl13 P Dn lw cl id gl bo), (14, lng pn), (15, ia ri), (16, ia lf), (17, ia wa), (18, ia fo), (19, lng dn), (20, ia ha), (21, ia pa), (22, ia bl), (105, bkc o bv), (106, ia u1), (107, ia u2), (108, ia u3), (109, ia u4)])) (some (.int (Int32.ofNat j0)), ov (ov H ((1, tcl n lim a kd pl w le nu tk (Int32.ofNat 0) fp) :: (2, bcl bs) :: [(13, dcl13 P Dn lw cl id gl bo), (14, lng pn), (15, ia ri), (16, ia lf), (17, ia wa), (18, ia fo), (19, lng dn), (20, ia ha), (21, ia pa), (22, ia bl), (105, bkc o bv), (106, ia u1), (107, ia u2), (108, ia u3), (109, ia u4)])) [(1, tcl n lim a kd pl w le nu tk (Int32.ofNat 0) fp)]) := by
              refine FR_st2 (l2 := ((1, tcl n lim a kd pl w le nu tk (Int32.ofNat 0) fp) :: (2, bcl bs) :: [(13, dcl13 P Dn lw cl id gl bo), (14, lng pn), (15, ia ri), (16, ia lf), (17, ia wa), (18, ia fo), (19, lng dn), (20, ia ha), (21, ia pa), (22, ia bl), (105, bkc o bv), (106, ia u1), (107, ia u2), (108, ia u3), (109, ia u4)])) rfl rfl rfl ?_
              refine RT_step (pc2 := 1) rfl (fun _ _ => rfl) ?_
              refine RT_step (pc2 := 2) rfl (fun _ _ => rfl) ?_
              refine ow_gf rfl rfl rfl hlen rfl ?_
              refine RT_step (pc2 := 6) rfl (fun _ _ => rfl) ?_
              refine ow_gf rfl rfl rfl hlen rfl ?_
              refine ow_is1 (l2 := ((1, tcl n lim a kd pl w le nu tk (Int32.ofNat 0) fp) :: (2, bcl bs) :: [(13, dcl13 P Dn lw cl id gl bo), (14, lng pn), (15, ia ri), (16, ia lf), (17, ia wa), (18, ia fo), (19, lng dn), (20, ia ha), (21, ia pa), (22, ia bl), (105, bkc o bv), (106, ia u1), (107, ia u2), (108, ia u3), (109, ia u4)])) rfl rfl rfl rfl rfl (hz.up (by decide)) rfl ?_
              exact ow_irt rfl rfl rfl
            refine FR_st2 (l2 := ((1, T) :: (2, bcl bs) :: [(13, dcl13 P Dn lw cl id gl bo), (14, lng pn), (15, ia ri), (16, ia lf), (17, ia wa), (18, ia fo), (19, lng dn), (20, ia ha), (21, ia pa), (22, ia bl), (105, bkc (o + 1) bv), (106, ia v1), (107, ia v2), (108, ia v3), (109, ia v4)])) rfl rfl rfl ?_
            refine RT_step (pc2 := 1) rfl (fun _ _ => rfl) ?_
            refine RT_step (pc2 := 2) rfl (fun _ _ => rfl) ?_
            refine ow_iv1 (l2 := ((1, tcl n lim a kd pl w le nu tk (Int32.ofNat 0) fp) :: (2, bcl bs) :: [(13, dcl13 P Dn lw cl id gl bo), (14, lng pn), (15, ia ri), (16, ia lf), (17, ia wa), (18, ia fo), (19, lng dn), (20, ia ha), (21, ia pa), (22, ia bl), (105, bkc o bv), (106, ia u1), (107, ia u2), (108, ia u3), (109, ia u4)])) rfl rfl rfl rfl hlen rfl rfl rfl (hy.up (by decide)) rfl ?_
            refine RT_step (pc2 := 6) rfl (fun _ _ => rfl) ?_
            refine RT_step (pc2 := 7) rfl (fun _ _ => rfl) ?_
            refine rt_ico rfl ki_m1 ?_
            refine biF_ne rfl (n_m1 (by omega)) ?_
            refine RT_step (pc2 := 14) rfl (fun _ _ => rfl) ?_
            refine ow_gf rfl rfl rfl hlen rfl ?_
            refine rt_bip rfl k8_40 ?_
            refine biT_lt rfl (n_lt (by omega) (by omega)) ?_
            refine RT_step (pc2 := 29) rfl (fun _ _ => rfl) ?_
            refine ow_iv0 (l2 := ((1, tcl n lim a1 kd1 pl1 11 le1 nu1 tk (Int32.ofNat 0) fp1) :: (2, bcl bs) :: [(13, dcl13 P Dn lw cl id gl bo), (14, lng pn), (15, ia ri), (16, ia lf), (17, ia wa), (18, ia fo), (19, lng dn), (20, ia ha), (21, ia pa), (22, ia bl), (105, bkc o bv), (106, ia u1), (107, ia u2), (108, ia u3), (109, ia u4)])) rfl rfl rfl rfl hlen rfl rfl rfl ((x1 _ (ov_hl hlen) (ov_at rfl (ov_lt hlen (by decide))) (ov_at rfl (ov_lt hlen (by decide)))).up (by decide)) rfl ?_
            refine RT_step (pc2 := 33) rfl (fun _ _ => rfl) ?_
            refine ow_gf rfl rfl rfl hlen rfl ?_
            refine RT_step (pc2 := 38) rfl (fun _ _ => rfl) ?_
            refine RT_step (pc2 := 41) rfl (fun _ _ => rfl) ?_
            refine RT_step (pc2 := 43) rfl (fun _ _ => rfl) ?_
            refine rt_ord rfl (by decide) rfl ?_
            refine rt_isw rfl (v := 8) (by decide +kernel) ?_
            refine RT_step (pc2 := 80) rfl (fun _ _ => rfl) ?_
            refine RT_step (pc2 := 81) rfl (fun _ _ => rfl) ?_
            refine RT_step (pc2 := 82) rfl (fun _ _ => rfl) ?_
            refine RT_step (pc2 := 83) rfl (fun _ _ => rfl) ?_
            refine RT_step (pc2 := 84) rfl (fun _ _ => rfl) ?_
            refine ow_iv1 (l2 := ((1, T) :: (2, bcl bs) :: [(13, dcl13 P Dn lw cl id gl bo), (14, lng pn), (15, ia ri), (16, ia lf), (17, ia wa), (18, ia fo), (19, lng dn), (20, ia ha), (21, ia pa), (22, ia bl), (105, bkc (o + 1) bv), (106, ia v1), (107, ia v2), (108, ia v3), (109, ia v4)])) rfl rfl rfl rfl hlen rfl rfl rfl ((h.1 H hlen).up (by decide)) rfl ?_
            exact ow_irt rfl rfl rfl
          · refine RT_step (pc2 := 1) rfl (fun _ _ => rfl) ?_
            refine rt_bip rfl k8_16 ?_
            refine ow_iv1 (l2 := ((180, mcl (Int32.ofNat 0) (Int32.ofNat 0) n lim a pl (km kd) nm sg (Int32.ofNat 0) qm wd td (posb vs o)) :: (181, mtl ts) :: [(182, ia nw), (187, lng nz), (200, ia li)])) rfl rfl rfl rfl hlen rfl rfl rfl ((m_isWord (k := 16) (ov_hl hlen) (ov_at rfl (ov_lt hlen (by decide))) (km_is kd t.2.2.2.1).2.2.2.2.2 (by decide)).up (by omega)) rfl ?_
            refine RT_step (pc2 := 7) rfl (fun _ _ => rfl) ?_
            refine RT_step (pc2 := 8) rfl (fun _ _ => rfl) ?_
            refine bcT_ne rfl (b01_f hd0) ?_
            refine RT_step (pc2 := 12) rfl (fun _ _ => rfl) ?_
            refine ow_iv1 (l2 := ((180, mcl (Int32.ofNat 0) (Int32.ofNat 0) n lim a pl (km kd) nm sg (Int32.ofNat 0) qm wd td (posb vs o)) :: (181, mtl ts) :: [(182, ia nw), (187, lng nz), (200, ia li)])) rfl rfl rfl rfl hlen rfl rfl rfl ((m_isName (ov_hl hlen) (ov_at rfl (ov_lt hlen (by decide))) (km_is kd t.2.2.2.1).2.2.2.2.2).up (by omega)) rfl ?_
            refine bcF_ne rfl (b01_t hnm) ?_
            refine RT_step (pc2 := 25) rfl (fun _ _ => rfl) ?_
            refine ow_gf rfl rfl rfl hlen rfl ?_
            refine rt_ico rfl ki_0 ?_
            refine RT_step (pc2 := 30) rfl (fun _ _ => rfl) ?_
            refine ow_gf rfl rfl rfl hlen rfl ?_
            refine rt_ico rfl ki_0 ?_
            refine ow_ialN rfl rfl hv (by omega) hlen rfl ?_
            refine RT_step (pc2 := 36) rfl (fun _ _ => rfl) ?_
            refine ow_gf rfl rfl rfl hlen rfl ?_
            refine ow_is1 (l2 := ((180, mcl (Int32.ofNat 0) (Int32.ofNat 0) n lim a pl (km kd) nm sg (Int32.ofNat 0) qm wd td (posb vs o)) :: (181, mtl ts) :: [(182, ia nw), (187, lng nz), (200, ia li)])) rfl rfl rfl rfl rfl ((m_find7 (bs0 := 0) (cnt := P) (ov_hl hlen) (ov_at rfl (ov_lt hlen (by decide))) (by omega) (by omega)).up (by omega)) rfl ?_
            rw [show fdI (fd nz wd 0 P 0) = Int32.ofNat j0 from by rw [g0]; rfl]
            refine rt_ico rfl ki_m1 ?_
            refine biF_ne rfl (n_m1 (by omega)) ?_
            refine RT_step (pc2 := 53) rfl (fun _ _ => rfl) ?_
            refine ow_gf rfl rfl rfl hlen rfl ?_
            refine rt_bip rfl k8_40 ?_
            refine biF_ne rfl (n_ne co (by omega) (by omega)) ?_
            refine rt_ico rfl ki_4 ?_
            refine RT_step (pc2 := 69) rfl (fun _ _ => rfl) ?_
            refine ow_gf rfl rfl rfl hlen rfl ?_
            refine ba_imul rfl ?_
            rw [nmul4]
            refine RT_step (pc2 := 74) rfl (fun _ _ => rfl) ?_
            refine RT_step (pc2 := 75) rfl (fun _ _ => rfl) ?_
            refine ow_gf rfl rfl rfl hlen rfl ?_
            refine RT_step (pc2 := 79) rfl (fun _ _ => rfl) ?_
            refine rt_ico rfl ki_5 ?_
            refine ow_iasN (l2 := ((180, mcl (Int32.ofNat 0) (Int32.ofNat 0) n lim a pl (km kd) nm sg (Int32.ofNat 0) qm wd td (posb vs o)) :: (181, mtl ts) :: [(182, ia nw), (187, lng nz), (200, ia (li.set (4 * o) (Int32.ofNat 5)))])) rfl rfl (by (try simp only [List.length_set]); omega) (by omega) hlen rfl rfl ?_
            refine RT_step (pc2 := 82) rfl (fun _ _ => rfl) ?_
            refine ow_gf rfl rfl rfl hlen rfl ?_
            refine RT_step (pc2 := 86) rfl (fun _ _ => rfl) ?_
            refine rt_ico rfl ki_1 ?_
            refine ba_iadd rfl ?_
            rw [n_add]
            refine RT_step (pc2 := 89) rfl (fun _ _ => rfl) ?_
            refine bcT_eq rfl (b01_f hd0) ?_
            refine RT_step (pc2 := 97) rfl (fun _ _ => rfl) ?_
            refine ow_gf rfl rfl rfl hlen rfl ?_
            refine rt_ico rfl ki_0 ?_
            refine RT_step (pc2 := 102) rfl (fun _ _ => rfl) ?_
            refine ow_gf rfl rfl rfl hlen rfl ?_
            refine rt_ico rfl ki_0 ?_
            refine ow_ialN rfl rfl hv (by omega) hlen rfl ?_
            refine RT_step (pc2 := 108) rfl (fun _ _ => rfl) ?_
            refine ow_gf rfl rfl rfl hlen rfl ?_
            refine ow_is1 (l2 := ((180, mcl (Int32.ofNat 0) (Int32.ofNat 0) n lim a pl (km kd) nm sg (Int32.ofNat 0) qm wd td (posb vs o)) :: (181, mtl ts) :: [(182, ia nw), (187, lng nz), (200, ia (li.set (4 * o) (Int32.ofNat 5)))])) rfl rfl rfl rfl rfl ((m_find7 (bs0 := 0) (cnt := P) (ov_hl hlen) (ov_at rfl (ov_lt hlen (by decide))) (by omega) (by omega)).up (by omega)) rfl ?_
            rw [show fdI (fd nz wd 0 P 0) = Int32.ofNat j0 from by rw [g0]; rfl]
            refine ow_iasN (l2 := ((180, mcl (Int32.ofNat 0) (Int32.ofNat 0) n lim a pl (km kd) nm sg (Int32.ofNat 0) qm wd td (posb vs o)) :: (181, mtl ts) :: [(182, ia nw), (187, lng nz), (200, ia ((li.set (4 * o) (Int32.ofNat 5)).set (4 * o + 1) (Int32.ofNat j0)))])) rfl rfl (by (try simp only [List.length_set]); omega) (by omega) hlen rfl rfl ?_
            refine RT_step (pc2 := 116) rfl (fun _ _ => rfl) ?_
            refine ow_gf rfl rfl rfl hlen rfl ?_
            refine RT_step (pc2 := 120) rfl (fun _ _ => rfl) ?_
            refine rt_ico rfl ki_2 ?_
            refine ba_iadd rfl ?_
            rw [n_add]
            refine rt_ico rfl ki_0 ?_
            refine ow_iasN (l2 := ((180, mcl (Int32.ofNat 0) (Int32.ofNat 0) n lim a pl (km kd) nm sg (Int32.ofNat 0) qm wd td (posb vs o)) :: (181, mtl ts) :: [(182, ia nw), (187, lng nz), (200, ia (((li.set (4 * o) (Int32.ofNat 5)).set (4 * o + 1) (Int32.ofNat j0)).set (4 * o + 2) (Int32.ofNat 0)))])) rfl rfl (by (try simp only [List.length_set]); omega) (by omega) hlen rfl rfl ?_
            refine RT_step (pc2 := 125) rfl (fun _ _ => rfl) ?_
            refine ow_gf rfl rfl rfl hlen rfl ?_
            refine RT_step (pc2 := 129) rfl (fun _ _ => rfl) ?_
            refine rt_ico rfl ki_3 ?_
            refine ba_iadd rfl ?_
            rw [n_add]
            refine rt_ico rfl ki_0 ?_
            refine ow_iasN (l2 := ((180, mcl (Int32.ofNat 0) (Int32.ofNat 0) n lim a pl (km kd) nm sg (Int32.ofNat 0) qm wd td (posb vs o)) :: (181, mtl ts) :: [(182, ia nw), (187, lng nz), (200, ia ((((li.set (4 * o) (Int32.ofNat 5)).set (4 * o + 1) (Int32.ofNat j0)).set (4 * o + 2) (Int32.ofNat 0)).set (4 * o + 3) (Int32.ofNat 0)))])) rfl rfl (by (try simp only [List.length_set]); omega) (by omega) hlen rfl rfl ?_
            refine RT_step (pc2 := 134) rfl (fun _ _ => rfl) ?_
            refine ow_iv0 (l2 := ((180, mcl (Int32.ofNat 0) (Int32.ofNat 0) n lim a1 pl1 (km kd1) nm1 sg1 (Int32.ofNat 0) qm1 wd1 td (posb vs o)) :: (181, mtl ts) :: [(182, ia nw), (187, lng nz), (200, ia ((((li.set (4 * o) (Int32.ofNat 5)).set (4 * o + 1) (Int32.ofNat j0)).set (4 * o + 2) (Int32.ofNat 0)).set (4 * o + 3) (Int32.ofNat 0)))])) rfl rfl rfl rfl hlen rfl rfl rfl ((m1 _ (ov_hl hlen) (ov_at rfl (ov_lt hlen (by decide))) (ov_at rfl (ov_lt hlen (by decide)))).up (by omega)) rfl ?_
            refine RT_step (pc2 := 138) rfl (fun _ _ => rfl) ?_
            refine bcT_eq rfl (b01_f hd0) ?_
            refine RT_step (pc2 := 162) rfl (fun _ _ => rfl) ?_
            refine RT_step (pc2 := 163) rfl (fun _ _ => rfl) ?_
            refine ow_iv1 (l2 := ((180, M) :: (181, mtl ts) :: [(182, ia nw), (187, lng nz), (200, ia li2)])) rfl rfl rfl rfl hlen rfl rfl rfl ((h.2 H hlen).up (by omega)) rfl ?_
            refine bcF_eq rfl (by decide) ?_
            exact hq _ rfl
      · subst cv
        have hk11 := w_k1 t1 (by decide)
        rcases b_weds13 (vs := vs) (bv := bv) (pl := pl1) (tk := tk) (td := td) (fp := fp1) (qm := qm1) hB hM hb hn hl t1 (by omega) (by omega) jv hP hDn lp ld lz hv hv1 hN hN2 bx (li := ((((li.set (4 * o) (Int32.ofNat 5)).set (4 * o + 1) (Int32.ofNat j0)).set (4 * o + 2) (Int32.ofNat 0)).set (4 * o + 3) (Int32.ofNat 0))) ln4 ho (z := (Int32.ofNat j0)) with ⟨T, M, li2, f, ln2, h⟩ | ⟨k2, tk2, td2, T, M, v1, v2, v3, v4, li2, c2, bx2, ln2, h⟩
        · refine Or.inl ⟨T, M, li2, f, ln2, fun H hlen => ?_, fun H hlen => ?_⟩
          · have hz : FR 2 71 [.ref 1, .ref 14, .int (Int32.ofNat P)] (ov H ((1, tcl n lim a kd pl w le nu tk (Int32.ofNat 0) fp) :: (2, bcl bs) :: [(13, dcl13 P Dn lw cl id gl bo), (14, lng pn), (15, ia ri), (16, ia lf), (17, ia wa), (18, ia fo), (19, lng dn), (20, ia ha), (21, ia pa), (22, ia bl), (105, bkc o bv), (106, ia u1), (107, ia u2), (108, ia u3), (109, ia u4)])) (some (.int (Int32.ofNat j0)), ov (ov H ((1, tcl n lim a kd pl w le nu tk (Int32.ofNat 0) fp) :: (2, bcl bs) :: [(13, dcl13 P Dn lw cl id gl bo), (14, lng pn), (15, ia ri), (16, ia lf), (17, ia wa), (18, ia fo), (19, lng dn), (20, ia ha), (21, ia pa), (22, ia bl), (105, bkc o bv), (106, ia u1), (107, ia u2), (108, ia u3), (109, ia u4)])) [(1, tcl n lim a kd pl w le nu tk (Int32.ofNat 0) fp)]) := by
              refine FR_st2 (l2 := ((1, tcl n lim a kd pl w le nu tk (Int32.ofNat 0) fp) :: (2, bcl bs) :: [(13, dcl13 P Dn lw cl id gl bo), (14, lng pn), (15, ia ri), (16, ia lf), (17, ia wa), (18, ia fo), (19, lng dn), (20, ia ha), (21, ia pa), (22, ia bl), (105, bkc o bv), (106, ia u1), (107, ia u2), (108, ia u3), (109, ia u4)])) rfl rfl rfl ?_
              refine RT_step (pc2 := 1) rfl (fun _ _ => rfl) ?_
              refine ow_gf rfl rfl rfl hlen rfl ?_
              refine RT_step (pc2 := 7) rfl (fun _ _ => rfl) ?_
              refine rt_acE rfl (by omega) (by omega) ?_
              refine RT_if c ?_
              refine RT_step (pc2 := 19) rfl (fun _ _ => rfl) ?_
              refine RT_step (pc2 := 20) rfl (fun _ _ => rfl) ?_
              refine RT_step (pc2 := 21) rfl (fun _ _ => rfl) ?_
              refine ow_gf rfl rfl rfl hlen rfl ?_
              refine ow_is1 rfl rfl rfl rfl rfl ((x_find14 (ov_hl hlen) (ov_at rfl (ov_lt hlen (by decide))) (by omega) (by omega)).up (by decide)) rfl ?_
              rw [show fdI (fd pn le 0 P 0) = Int32.ofNat j0 from by rw [e0]; rfl]
              refine RT_step (pc2 := 28) rfl (fun _ _ => rfl) ?_
              refine RT_step (pc2 := 29) rfl (fun _ _ => rfl) ?_
              refine rt_ico rfl ki_m1 ?_
              refine biF_ne rfl (n_m1 (by omega)) ?_
              refine RT_step (pc2 := 40) rfl (fun _ _ => rfl) ?_
              exact ow_irt rfl rfl rfl
            have hy : FR 3 73 [.ref 13, .ref 1] (ov H ((1, tcl n lim a kd pl w le nu tk (Int32.ofNat 0) fp) :: (2, bcl bs) :: [(13, dcl13 P Dn lw cl id gl bo), (14, lng pn), (15, ia ri), (16, ia lf), (17, ia wa), (18, ia fo), (19, lng dn), (20, ia ha), (21, ia pa), (22, ia bl), (105, bkc o bv), (106, ia u1), (107, ia u2), (108, ia u3), (109, ia u4)])) (some (.int (Int32.ofNat j0)), ov (ov H ((1, tcl n lim a kd pl w le nu tk (Int32.ofNat 0) fp) :: (2, bcl bs) :: [(13, dcl13 P Dn lw cl id gl bo), (14, lng pn), (15, ia ri), (16, ia lf), (17, ia wa), (18, ia fo), (19, lng dn), (20, ia ha), (21, ia pa), (22, ia bl), (105, bkc o bv), (106, ia u1), (107, ia u2), (108, ia u3), (109, ia u4)])) [(1, tcl n lim a kd pl w le nu tk (Int32.ofNat 0) fp)]) := by
              refine FR_st2 (l2 := ((1, tcl n lim a kd pl w le nu tk (Int32.ofNat 0) fp) :: (2, bcl bs) :: [(13, dcl13 P Dn lw cl id gl bo), (14, lng pn), (15, ia ri), (16, ia lf), (17, ia wa), (18, ia fo), (19, lng dn), (20, ia ha), (21, ia pa), (22, ia bl), (105, bkc o bv), (106, ia u1), (107, ia u2), (108, ia u3), (109, ia u4)])) rfl rfl rfl ?_
              refine RT_step (pc2 := 1) rfl (fun _ _ => rfl) ?_
              refine RT_step (pc2 := 2) rfl (fun _ _ => rfl) ?_
              refine ow_gf rfl rfl rfl hlen rfl ?_
              refine RT_step (pc2 := 6) rfl (fun _ _ => rfl) ?_
              refine ow_gf rfl rfl rfl hlen rfl ?_
              refine ow_is1 (l2 := ((1, tcl n lim a kd pl w le nu tk (Int32.ofNat 0) fp) :: (2, bcl bs) :: [(13, dcl13 P Dn lw cl id gl bo), (14, lng pn), (15, ia ri), (16, ia lf), (17, ia wa), (18, ia fo), (19, lng dn), (20, ia ha), (21, ia pa), (22, ia bl), (105, bkc o bv), (106, ia u1), (107, ia u2), (108, ia u3), (109, ia u4)])) rfl rfl rfl rfl rfl (hz.up (by decide)) rfl ?_
              exact ow_irt rfl rfl rfl
            refine FR_st2 (l2 := ((1, T) :: (2, bcl bs) :: [(13, dcl13 P Dn lw cl id gl bo), (14, lng pn), (15, ia ri), (16, ia lf), (17, ia wa), (18, ia fo), (19, lng dn), (20, ia ha), (21, ia pa), (22, ia bl), (105, bkc o bv), (106, ia u1), (107, ia u2), (108, ia u3), (109, ia u4)])) rfl rfl rfl ?_
            refine RT_step (pc2 := 1) rfl (fun _ _ => rfl) ?_
            refine RT_step (pc2 := 2) rfl (fun _ _ => rfl) ?_
            refine ow_iv1 (l2 := ((1, tcl n lim a kd pl w le nu tk (Int32.ofNat 0) fp) :: (2, bcl bs) :: [(13, dcl13 P Dn lw cl id gl bo), (14, lng pn), (15, ia ri), (16, ia lf), (17, ia wa), (18, ia fo), (19, lng dn), (20, ia ha), (21, ia pa), (22, ia bl), (105, bkc o bv), (106, ia u1), (107, ia u2), (108, ia u3), (109, ia u4)])) rfl rfl rfl rfl hlen rfl rfl rfl (hy.up (by decide)) rfl ?_
            refine RT_step (pc2 := 6) rfl (fun _ _ => rfl) ?_
            refine RT_step (pc2 := 7) rfl (fun _ _ => rfl) ?_
            refine rt_ico rfl ki_m1 ?_
            refine biF_ne rfl (n_m1 (by omega)) ?_
            refine RT_step (pc2 := 14) rfl (fun _ _ => rfl) ?_
            refine ow_gf rfl rfl rfl hlen rfl ?_
            refine rt_bip rfl k8_40 ?_
            refine biT_lt rfl (n_lt (by omega) (by omega)) ?_
            refine RT_step (pc2 := 29) rfl (fun _ _ => rfl) ?_
            refine ow_iv0 (l2 := ((1, tcl n lim a1 kd1 pl1 12 le1 nu1 tk (Int32.ofNat 0) fp1) :: (2, bcl bs) :: [(13, dcl13 P Dn lw cl id gl bo), (14, lng pn), (15, ia ri), (16, ia lf), (17, ia wa), (18, ia fo), (19, lng dn), (20, ia ha), (21, ia pa), (22, ia bl), (105, bkc o bv), (106, ia u1), (107, ia u2), (108, ia u3), (109, ia u4)])) rfl rfl rfl rfl hlen rfl rfl rfl ((x1 _ (ov_hl hlen) (ov_at rfl (ov_lt hlen (by decide))) (ov_at rfl (ov_lt hlen (by decide)))).up (by decide)) rfl ?_
            refine RT_step (pc2 := 33) rfl (fun _ _ => rfl) ?_
            refine ow_gf rfl rfl rfl hlen rfl ?_
            refine RT_step (pc2 := 38) rfl (fun _ _ => rfl) ?_
            refine RT_step (pc2 := 41) rfl (fun _ _ => rfl) ?_
            refine RT_step (pc2 := 43) rfl (fun _ _ => rfl) ?_
            refine rt_ord rfl (by decide) rfl ?_
            refine rt_isw rfl (v := 9) (by decide +kernel) ?_
            refine RT_step (pc2 := 88) rfl (fun _ _ => rfl) ?_
            refine RT_step (pc2 := 89) rfl (fun _ _ => rfl) ?_
            refine RT_step (pc2 := 90) rfl (fun _ _ => rfl) ?_
            refine RT_step (pc2 := 91) rfl (fun _ _ => rfl) ?_
            refine RT_step (pc2 := 92) rfl (fun _ _ => rfl) ?_
            refine ow_iv1 (l2 := ((1, T) :: (2, bcl bs) :: [(13, dcl13 P Dn lw cl id gl bo), (14, lng pn), (15, ia ri), (16, ia lf), (17, ia wa), (18, ia fo), (19, lng dn), (20, ia ha), (21, ia pa), (22, ia bl), (105, bkc o bv), (106, ia u1), (107, ia u2), (108, ia u3), (109, ia u4)])) rfl rfl rfl rfl hlen rfl rfl rfl ((h.1 H hlen).up (by decide)) rfl ?_
            exact ow_irt rfl rfl rfl
          · refine FR_st2 (l2 := ((180, M) :: (181, mtl ts) :: [(182, ia nw), (187, lng nz), (200, ia li2)])) rfl rfl rfl ?_
            refine RT_step (pc2 := 1) rfl (fun _ _ => rfl) ?_
            refine rt_bip rfl k8_16 ?_
            refine ow_iv1 (l2 := ((180, mcl (Int32.ofNat 0) (Int32.ofNat 0) n lim a pl (km kd) nm sg (Int32.ofNat 0) qm wd td (posb vs o)) :: (181, mtl ts) :: [(182, ia nw), (187, lng nz), (200, ia li)])) rfl rfl rfl rfl hlen rfl rfl rfl ((m_isWord (k := 16) (ov_hl hlen) (ov_at rfl (ov_lt hlen (by decide))) (km_is kd t.2.2.2.1).2.2.2.2.2 (by decide)).up (by omega)) rfl ?_
            refine RT_step (pc2 := 7) rfl (fun _ _ => rfl) ?_
            refine RT_step (pc2 := 8) rfl (fun _ _ => rfl) ?_
            refine bcT_ne rfl (b01_f hd0) ?_
            refine RT_step (pc2 := 12) rfl (fun _ _ => rfl) ?_
            refine ow_iv1 (l2 := ((180, mcl (Int32.ofNat 0) (Int32.ofNat 0) n lim a pl (km kd) nm sg (Int32.ofNat 0) qm wd td (posb vs o)) :: (181, mtl ts) :: [(182, ia nw), (187, lng nz), (200, ia li)])) rfl rfl rfl rfl hlen rfl rfl rfl ((m_isName (ov_hl hlen) (ov_at rfl (ov_lt hlen (by decide))) (km_is kd t.2.2.2.1).2.2.2.2.2).up (by omega)) rfl ?_
            refine bcF_ne rfl (b01_t hnm) ?_
            refine RT_step (pc2 := 25) rfl (fun _ _ => rfl) ?_
            refine ow_gf rfl rfl rfl hlen rfl ?_
            refine rt_ico rfl ki_0 ?_
            refine RT_step (pc2 := 30) rfl (fun _ _ => rfl) ?_
            refine ow_gf rfl rfl rfl hlen rfl ?_
            refine rt_ico rfl ki_0 ?_
            refine ow_ialN rfl rfl hv (by omega) hlen rfl ?_
            refine RT_step (pc2 := 36) rfl (fun _ _ => rfl) ?_
            refine ow_gf rfl rfl rfl hlen rfl ?_
            refine ow_is1 (l2 := ((180, mcl (Int32.ofNat 0) (Int32.ofNat 0) n lim a pl (km kd) nm sg (Int32.ofNat 0) qm wd td (posb vs o)) :: (181, mtl ts) :: [(182, ia nw), (187, lng nz), (200, ia li)])) rfl rfl rfl rfl rfl ((m_find7 (bs0 := 0) (cnt := P) (ov_hl hlen) (ov_at rfl (ov_lt hlen (by decide))) (by omega) (by omega)).up (by omega)) rfl ?_
            rw [show fdI (fd nz wd 0 P 0) = Int32.ofNat j0 from by rw [g0]; rfl]
            refine rt_ico rfl ki_m1 ?_
            refine biF_ne rfl (n_m1 (by omega)) ?_
            refine RT_step (pc2 := 53) rfl (fun _ _ => rfl) ?_
            refine ow_gf rfl rfl rfl hlen rfl ?_
            refine rt_bip rfl k8_40 ?_
            refine biF_ne rfl (n_ne co (by omega) (by omega)) ?_
            refine rt_ico rfl ki_4 ?_
            refine RT_step (pc2 := 69) rfl (fun _ _ => rfl) ?_
            refine ow_gf rfl rfl rfl hlen rfl ?_
            refine ba_imul rfl ?_
            rw [nmul4]
            refine RT_step (pc2 := 74) rfl (fun _ _ => rfl) ?_
            refine RT_step (pc2 := 75) rfl (fun _ _ => rfl) ?_
            refine ow_gf rfl rfl rfl hlen rfl ?_
            refine RT_step (pc2 := 79) rfl (fun _ _ => rfl) ?_
            refine rt_ico rfl ki_5 ?_
            refine ow_iasN (l2 := ((180, mcl (Int32.ofNat 0) (Int32.ofNat 0) n lim a pl (km kd) nm sg (Int32.ofNat 0) qm wd td (posb vs o)) :: (181, mtl ts) :: [(182, ia nw), (187, lng nz), (200, ia (li.set (4 * o) (Int32.ofNat 5)))])) rfl rfl (by (try simp only [List.length_set]); omega) (by omega) hlen rfl rfl ?_
            refine RT_step (pc2 := 82) rfl (fun _ _ => rfl) ?_
            refine ow_gf rfl rfl rfl hlen rfl ?_
            refine RT_step (pc2 := 86) rfl (fun _ _ => rfl) ?_
            refine rt_ico rfl ki_1 ?_
            refine ba_iadd rfl ?_
            rw [n_add]
            refine RT_step (pc2 := 89) rfl (fun _ _ => rfl) ?_
            refine bcT_eq rfl (b01_f hd0) ?_
            refine RT_step (pc2 := 97) rfl (fun _ _ => rfl) ?_
            refine ow_gf rfl rfl rfl hlen rfl ?_
            refine rt_ico rfl ki_0 ?_
            refine RT_step (pc2 := 102) rfl (fun _ _ => rfl) ?_
            refine ow_gf rfl rfl rfl hlen rfl ?_
            refine rt_ico rfl ki_0 ?_
            refine ow_ialN rfl rfl hv (by omega) hlen rfl ?_
            refine RT_step (pc2 := 108) rfl (fun _ _ => rfl) ?_
            refine ow_gf rfl rfl rfl hlen rfl ?_
            refine ow_is1 (l2 := ((180, mcl (Int32.ofNat 0) (Int32.ofNat 0) n lim a pl (km kd) nm sg (Int32.ofNat 0) qm wd td (posb vs o)) :: (181, mtl ts) :: [(182, ia nw), (187, lng nz), (200, ia (li.set (4 * o) (Int32.ofNat 5)))])) rfl rfl rfl rfl rfl ((m_find7 (bs0 := 0) (cnt := P) (ov_hl hlen) (ov_at rfl (ov_lt hlen (by decide))) (by omega) (by omega)).up (by omega)) rfl ?_
            rw [show fdI (fd nz wd 0 P 0) = Int32.ofNat j0 from by rw [g0]; rfl]
            refine ow_iasN (l2 := ((180, mcl (Int32.ofNat 0) (Int32.ofNat 0) n lim a pl (km kd) nm sg (Int32.ofNat 0) qm wd td (posb vs o)) :: (181, mtl ts) :: [(182, ia nw), (187, lng nz), (200, ia ((li.set (4 * o) (Int32.ofNat 5)).set (4 * o + 1) (Int32.ofNat j0)))])) rfl rfl (by (try simp only [List.length_set]); omega) (by omega) hlen rfl rfl ?_
            refine RT_step (pc2 := 116) rfl (fun _ _ => rfl) ?_
            refine ow_gf rfl rfl rfl hlen rfl ?_
            refine RT_step (pc2 := 120) rfl (fun _ _ => rfl) ?_
            refine rt_ico rfl ki_2 ?_
            refine ba_iadd rfl ?_
            rw [n_add]
            refine rt_ico rfl ki_0 ?_
            refine ow_iasN (l2 := ((180, mcl (Int32.ofNat 0) (Int32.ofNat 0) n lim a pl (km kd) nm sg (Int32.ofNat 0) qm wd td (posb vs o)) :: (181, mtl ts) :: [(182, ia nw), (187, lng nz), (200, ia (((li.set (4 * o) (Int32.ofNat 5)).set (4 * o + 1) (Int32.ofNat j0)).set (4 * o + 2) (Int32.ofNat 0)))])) rfl rfl (by (try simp only [List.length_set]); omega) (by omega) hlen rfl rfl ?_
            refine RT_step (pc2 := 125) rfl (fun _ _ => rfl) ?_
            refine ow_gf rfl rfl rfl hlen rfl ?_
            refine RT_step (pc2 := 129) rfl (fun _ _ => rfl) ?_
            refine rt_ico rfl ki_3 ?_
            refine ba_iadd rfl ?_
            rw [n_add]
            refine rt_ico rfl ki_0 ?_
            refine ow_iasN (l2 := ((180, mcl (Int32.ofNat 0) (Int32.ofNat 0) n lim a pl (km kd) nm sg (Int32.ofNat 0) qm wd td (posb vs o)) :: (181, mtl ts) :: [(182, ia nw), (187, lng nz), (200, ia ((((li.set (4 * o) (Int32.ofNat 5)).set (4 * o + 1) (Int32.ofNat j0)).set (4 * o + 2) (Int32.ofNat 0)).set (4 * o + 3) (Int32.ofNat 0)))])) rfl rfl (by (try simp only [List.length_set]); omega) (by omega) hlen rfl rfl ?_
            refine RT_step (pc2 := 134) rfl (fun _ _ => rfl) ?_
            refine ow_iv0 (l2 := ((180, mcl (Int32.ofNat 0) (Int32.ofNat 0) n lim a1 pl1 (km kd1) nm1 sg1 (Int32.ofNat 0) qm1 wd1 td (posb vs o)) :: (181, mtl ts) :: [(182, ia nw), (187, lng nz), (200, ia ((((li.set (4 * o) (Int32.ofNat 5)).set (4 * o + 1) (Int32.ofNat j0)).set (4 * o + 2) (Int32.ofNat 0)).set (4 * o + 3) (Int32.ofNat 0)))])) rfl rfl rfl rfl hlen rfl rfl rfl ((m1 _ (ov_hl hlen) (ov_at rfl (ov_lt hlen (by decide))) (ov_at rfl (ov_lt hlen (by decide)))).up (by omega)) rfl ?_
            refine RT_step (pc2 := 138) rfl (fun _ _ => rfl) ?_
            refine bcT_eq rfl (b01_f hd0) ?_
            refine RT_step (pc2 := 162) rfl (fun _ _ => rfl) ?_
            refine RT_step (pc2 := 163) rfl (fun _ _ => rfl) ?_
            refine ow_iv1 (l2 := ((180, M) :: (181, mtl ts) :: [(182, ia nw), (187, lng nz), (200, ia li2)])) rfl rfl rfl rfl hlen rfl rfl rfl ((h.2 H hlen).up (by omega)) rfl ?_
            refine bcT_eq rfl rfl ?_
            refine rt_ico rfl ki_0 ?_
            exact ow_irt rfl rfl rfl
        · refine Or.inr ⟨ho, k2, tk2, td2, T, M, v1, v2, v3, v4, li2, c2, bx2, ln2, fun H hlen => ?_, fun H dd q hlen hq => ?_⟩
          · have hz : FR 2 71 [.ref 1, .ref 14, .int (Int32.ofNat P)] (ov H ((1, tcl n lim a kd pl w le nu tk (Int32.ofNat 0) fp) :: (2, bcl bs) :: [(13, dcl13 P Dn lw cl id gl bo), (14, lng pn), (15, ia ri), (16, ia lf), (17, ia wa), (18, ia fo), (19, lng dn), (20, ia ha), (21, ia pa), (22, ia bl), (105, bkc o bv), (106, ia u1), (107, ia u2), (108, ia u3), (109, ia u4)])) (some (.int (Int32.ofNat j0)), ov (ov H ((1, tcl n lim a kd pl w le nu tk (Int32.ofNat 0) fp) :: (2, bcl bs) :: [(13, dcl13 P Dn lw cl id gl bo), (14, lng pn), (15, ia ri), (16, ia lf), (17, ia wa), (18, ia fo), (19, lng dn), (20, ia ha), (21, ia pa), (22, ia bl), (105, bkc o bv), (106, ia u1), (107, ia u2), (108, ia u3), (109, ia u4)])) [(1, tcl n lim a kd pl w le nu tk (Int32.ofNat 0) fp)]) := by
              refine FR_st2 (l2 := ((1, tcl n lim a kd pl w le nu tk (Int32.ofNat 0) fp) :: (2, bcl bs) :: [(13, dcl13 P Dn lw cl id gl bo), (14, lng pn), (15, ia ri), (16, ia lf), (17, ia wa), (18, ia fo), (19, lng dn), (20, ia ha), (21, ia pa), (22, ia bl), (105, bkc o bv), (106, ia u1), (107, ia u2), (108, ia u3), (109, ia u4)])) rfl rfl rfl ?_
              refine RT_step (pc2 := 1) rfl (fun _ _ => rfl) ?_
              refine ow_gf rfl rfl rfl hlen rfl ?_
              refine RT_step (pc2 := 7) rfl (fun _ _ => rfl) ?_
              refine rt_acE rfl (by omega) (by omega) ?_
              refine RT_if c ?_
              refine RT_step (pc2 := 19) rfl (fun _ _ => rfl) ?_
              refine RT_step (pc2 := 20) rfl (fun _ _ => rfl) ?_
              refine RT_step (pc2 := 21) rfl (fun _ _ => rfl) ?_
              refine ow_gf rfl rfl rfl hlen rfl ?_
              refine ow_is1 rfl rfl rfl rfl rfl ((x_find14 (ov_hl hlen) (ov_at rfl (ov_lt hlen (by decide))) (by omega) (by omega)).up (by decide)) rfl ?_
              rw [show fdI (fd pn le 0 P 0) = Int32.ofNat j0 from by rw [e0]; rfl]
              refine RT_step (pc2 := 28) rfl (fun _ _ => rfl) ?_
              refine RT_step (pc2 := 29) rfl (fun _ _ => rfl) ?_
              refine rt_ico rfl ki_m1 ?_
              refine biF_ne rfl (n_m1 (by omega)) ?_
              refine RT_step (pc2 := 40) rfl (fun _ _ => rfl) ?_
              exact ow_irt rfl rfl rfl
            have hy : FR 3 73 [.ref 13, .ref 1] (ov H ((1, tcl n lim a kd pl w le nu tk (Int32.ofNat 0) fp) :: (2, bcl bs) :: [(13, dcl13 P Dn lw cl id gl bo), (14, lng pn), (15, ia ri), (16, ia lf), (17, ia wa), (18, ia fo), (19, lng dn), (20, ia ha), (21, ia pa), (22, ia bl), (105, bkc o bv), (106, ia u1), (107, ia u2), (108, ia u3), (109, ia u4)])) (some (.int (Int32.ofNat j0)), ov (ov H ((1, tcl n lim a kd pl w le nu tk (Int32.ofNat 0) fp) :: (2, bcl bs) :: [(13, dcl13 P Dn lw cl id gl bo), (14, lng pn), (15, ia ri), (16, ia lf), (17, ia wa), (18, ia fo), (19, lng dn), (20, ia ha), (21, ia pa), (22, ia bl), (105, bkc o bv), (106, ia u1), (107, ia u2), (108, ia u3), (109, ia u4)])) [(1, tcl n lim a kd pl w le nu tk (Int32.ofNat 0) fp)]) := by
              refine FR_st2 (l2 := ((1, tcl n lim a kd pl w le nu tk (Int32.ofNat 0) fp) :: (2, bcl bs) :: [(13, dcl13 P Dn lw cl id gl bo), (14, lng pn), (15, ia ri), (16, ia lf), (17, ia wa), (18, ia fo), (19, lng dn), (20, ia ha), (21, ia pa), (22, ia bl), (105, bkc o bv), (106, ia u1), (107, ia u2), (108, ia u3), (109, ia u4)])) rfl rfl rfl ?_
              refine RT_step (pc2 := 1) rfl (fun _ _ => rfl) ?_
              refine RT_step (pc2 := 2) rfl (fun _ _ => rfl) ?_
              refine ow_gf rfl rfl rfl hlen rfl ?_
              refine RT_step (pc2 := 6) rfl (fun _ _ => rfl) ?_
              refine ow_gf rfl rfl rfl hlen rfl ?_
              refine ow_is1 (l2 := ((1, tcl n lim a kd pl w le nu tk (Int32.ofNat 0) fp) :: (2, bcl bs) :: [(13, dcl13 P Dn lw cl id gl bo), (14, lng pn), (15, ia ri), (16, ia lf), (17, ia wa), (18, ia fo), (19, lng dn), (20, ia ha), (21, ia pa), (22, ia bl), (105, bkc o bv), (106, ia u1), (107, ia u2), (108, ia u3), (109, ia u4)])) rfl rfl rfl rfl rfl (hz.up (by decide)) rfl ?_
              exact ow_irt rfl rfl rfl
            refine FR_st2 (l2 := ((1, T) :: (2, bcl bs) :: [(13, dcl13 P Dn lw cl id gl bo), (14, lng pn), (15, ia ri), (16, ia lf), (17, ia wa), (18, ia fo), (19, lng dn), (20, ia ha), (21, ia pa), (22, ia bl), (105, bkc (o + 1) bv), (106, ia v1), (107, ia v2), (108, ia v3), (109, ia v4)])) rfl rfl rfl ?_
            refine RT_step (pc2 := 1) rfl (fun _ _ => rfl) ?_
            refine RT_step (pc2 := 2) rfl (fun _ _ => rfl) ?_
            refine ow_iv1 (l2 := ((1, tcl n lim a kd pl w le nu tk (Int32.ofNat 0) fp) :: (2, bcl bs) :: [(13, dcl13 P Dn lw cl id gl bo), (14, lng pn), (15, ia ri), (16, ia lf), (17, ia wa), (18, ia fo), (19, lng dn), (20, ia ha), (21, ia pa), (22, ia bl), (105, bkc o bv), (106, ia u1), (107, ia u2), (108, ia u3), (109, ia u4)])) rfl rfl rfl rfl hlen rfl rfl rfl (hy.up (by decide)) rfl ?_
            refine RT_step (pc2 := 6) rfl (fun _ _ => rfl) ?_
            refine RT_step (pc2 := 7) rfl (fun _ _ => rfl) ?_
            refine rt_ico rfl ki_m1 ?_
            refine biF_ne rfl (n_m1 (by omega)) ?_
            refine RT_step (pc2 := 14) rfl (fun _ _ => rfl) ?_
            refine ow_gf rfl rfl rfl hlen rfl ?_
            refine rt_bip rfl k8_40 ?_
            refine biT_lt rfl (n_lt (by omega) (by omega)) ?_
            refine RT_step (pc2 := 29) rfl (fun _ _ => rfl) ?_
            refine ow_iv0 (l2 := ((1, tcl n lim a1 kd1 pl1 12 le1 nu1 tk (Int32.ofNat 0) fp1) :: (2, bcl bs) :: [(13, dcl13 P Dn lw cl id gl bo), (14, lng pn), (15, ia ri), (16, ia lf), (17, ia wa), (18, ia fo), (19, lng dn), (20, ia ha), (21, ia pa), (22, ia bl), (105, bkc o bv), (106, ia u1), (107, ia u2), (108, ia u3), (109, ia u4)])) rfl rfl rfl rfl hlen rfl rfl rfl ((x1 _ (ov_hl hlen) (ov_at rfl (ov_lt hlen (by decide))) (ov_at rfl (ov_lt hlen (by decide)))).up (by decide)) rfl ?_
            refine RT_step (pc2 := 33) rfl (fun _ _ => rfl) ?_
            refine ow_gf rfl rfl rfl hlen rfl ?_
            refine RT_step (pc2 := 38) rfl (fun _ _ => rfl) ?_
            refine RT_step (pc2 := 41) rfl (fun _ _ => rfl) ?_
            refine RT_step (pc2 := 43) rfl (fun _ _ => rfl) ?_
            refine rt_ord rfl (by decide) rfl ?_
            refine rt_isw rfl (v := 9) (by decide +kernel) ?_
            refine RT_step (pc2 := 88) rfl (fun _ _ => rfl) ?_
            refine RT_step (pc2 := 89) rfl (fun _ _ => rfl) ?_
            refine RT_step (pc2 := 90) rfl (fun _ _ => rfl) ?_
            refine RT_step (pc2 := 91) rfl (fun _ _ => rfl) ?_
            refine RT_step (pc2 := 92) rfl (fun _ _ => rfl) ?_
            refine ow_iv1 (l2 := ((1, T) :: (2, bcl bs) :: [(13, dcl13 P Dn lw cl id gl bo), (14, lng pn), (15, ia ri), (16, ia lf), (17, ia wa), (18, ia fo), (19, lng dn), (20, ia ha), (21, ia pa), (22, ia bl), (105, bkc (o + 1) bv), (106, ia v1), (107, ia v2), (108, ia v3), (109, ia v4)])) rfl rfl rfl rfl hlen rfl rfl rfl ((h.1 H hlen).up (by decide)) rfl ?_
            exact ow_irt rfl rfl rfl
          · refine RT_step (pc2 := 1) rfl (fun _ _ => rfl) ?_
            refine rt_bip rfl k8_16 ?_
            refine ow_iv1 (l2 := ((180, mcl (Int32.ofNat 0) (Int32.ofNat 0) n lim a pl (km kd) nm sg (Int32.ofNat 0) qm wd td (posb vs o)) :: (181, mtl ts) :: [(182, ia nw), (187, lng nz), (200, ia li)])) rfl rfl rfl rfl hlen rfl rfl rfl ((m_isWord (k := 16) (ov_hl hlen) (ov_at rfl (ov_lt hlen (by decide))) (km_is kd t.2.2.2.1).2.2.2.2.2 (by decide)).up (by omega)) rfl ?_
            refine RT_step (pc2 := 7) rfl (fun _ _ => rfl) ?_
            refine RT_step (pc2 := 8) rfl (fun _ _ => rfl) ?_
            refine bcT_ne rfl (b01_f hd0) ?_
            refine RT_step (pc2 := 12) rfl (fun _ _ => rfl) ?_
            refine ow_iv1 (l2 := ((180, mcl (Int32.ofNat 0) (Int32.ofNat 0) n lim a pl (km kd) nm sg (Int32.ofNat 0) qm wd td (posb vs o)) :: (181, mtl ts) :: [(182, ia nw), (187, lng nz), (200, ia li)])) rfl rfl rfl rfl hlen rfl rfl rfl ((m_isName (ov_hl hlen) (ov_at rfl (ov_lt hlen (by decide))) (km_is kd t.2.2.2.1).2.2.2.2.2).up (by omega)) rfl ?_
            refine bcF_ne rfl (b01_t hnm) ?_
            refine RT_step (pc2 := 25) rfl (fun _ _ => rfl) ?_
            refine ow_gf rfl rfl rfl hlen rfl ?_
            refine rt_ico rfl ki_0 ?_
            refine RT_step (pc2 := 30) rfl (fun _ _ => rfl) ?_
            refine ow_gf rfl rfl rfl hlen rfl ?_
            refine rt_ico rfl ki_0 ?_
            refine ow_ialN rfl rfl hv (by omega) hlen rfl ?_
            refine RT_step (pc2 := 36) rfl (fun _ _ => rfl) ?_
            refine ow_gf rfl rfl rfl hlen rfl ?_
            refine ow_is1 (l2 := ((180, mcl (Int32.ofNat 0) (Int32.ofNat 0) n lim a pl (km kd) nm sg (Int32.ofNat 0) qm wd td (posb vs o)) :: (181, mtl ts) :: [(182, ia nw), (187, lng nz), (200, ia li)])) rfl rfl rfl rfl rfl ((m_find7 (bs0 := 0) (cnt := P) (ov_hl hlen) (ov_at rfl (ov_lt hlen (by decide))) (by omega) (by omega)).up (by omega)) rfl ?_
            rw [show fdI (fd nz wd 0 P 0) = Int32.ofNat j0 from by rw [g0]; rfl]
            refine rt_ico rfl ki_m1 ?_
            refine biF_ne rfl (n_m1 (by omega)) ?_
            refine RT_step (pc2 := 53) rfl (fun _ _ => rfl) ?_
            refine ow_gf rfl rfl rfl hlen rfl ?_
            refine rt_bip rfl k8_40 ?_
            refine biF_ne rfl (n_ne co (by omega) (by omega)) ?_
            refine rt_ico rfl ki_4 ?_
            refine RT_step (pc2 := 69) rfl (fun _ _ => rfl) ?_
            refine ow_gf rfl rfl rfl hlen rfl ?_
            refine ba_imul rfl ?_
            rw [nmul4]
            refine RT_step (pc2 := 74) rfl (fun _ _ => rfl) ?_
            refine RT_step (pc2 := 75) rfl (fun _ _ => rfl) ?_
            refine ow_gf rfl rfl rfl hlen rfl ?_
            refine RT_step (pc2 := 79) rfl (fun _ _ => rfl) ?_
            refine rt_ico rfl ki_5 ?_
            refine ow_iasN (l2 := ((180, mcl (Int32.ofNat 0) (Int32.ofNat 0) n lim a pl (km kd) nm sg (Int32.ofNat 0) qm wd td (posb vs o)) :: (181, mtl ts) :: [(182, ia nw), (187, lng nz), (200, ia (li.set (4 * o) (Int32.ofNat 5)))])) rfl rfl (by (try simp only [List.length_set]); omega) (by omega) hlen rfl rfl ?_
            refine RT_step (pc2 := 82) rfl (fun _ _ => rfl) ?_
            refine ow_gf rfl rfl rfl hlen rfl ?_
            refine RT_step (pc2 := 86) rfl (fun _ _ => rfl) ?_
            refine rt_ico rfl ki_1 ?_
            refine ba_iadd rfl ?_
            rw [n_add]
            refine RT_step (pc2 := 89) rfl (fun _ _ => rfl) ?_
            refine bcT_eq rfl (b01_f hd0) ?_
            refine RT_step (pc2 := 97) rfl (fun _ _ => rfl) ?_
            refine ow_gf rfl rfl rfl hlen rfl ?_
            refine rt_ico rfl ki_0 ?_
            refine RT_step (pc2 := 102) rfl (fun _ _ => rfl) ?_
            refine ow_gf rfl rfl rfl hlen rfl ?_
            refine rt_ico rfl ki_0 ?_
            refine ow_ialN rfl rfl hv (by omega) hlen rfl ?_
            refine RT_step (pc2 := 108) rfl (fun _ _ => rfl) ?_
            refine ow_gf rfl rfl rfl hlen rfl ?_
            refine ow_is1 (l2 := ((180, mcl (Int32.ofNat 0) (Int32.ofNat 0) n lim a pl (km kd) nm sg (Int32.ofNat 0) qm wd td (posb vs o)) :: (181, mtl ts) :: [(182, ia nw), (187, lng nz), (200, ia (li.set (4 * o) (Int32.ofNat 5)))])) rfl rfl rfl rfl rfl ((m_find7 (bs0 := 0) (cnt := P) (ov_hl hlen) (ov_at rfl (ov_lt hlen (by decide))) (by omega) (by omega)).up (by omega)) rfl ?_
            rw [show fdI (fd nz wd 0 P 0) = Int32.ofNat j0 from by rw [g0]; rfl]
            refine ow_iasN (l2 := ((180, mcl (Int32.ofNat 0) (Int32.ofNat 0) n lim a pl (km kd) nm sg (Int32.ofNat 0) qm wd td (posb vs o)) :: (181, mtl ts) :: [(182, ia nw), (187, lng nz), (200, ia ((li.set (4 * o) (Int32.ofNat 5)).set (4 * o + 1) (Int32.ofNat j0)))])) rfl rfl (by (try simp only [List.length_set]); omega) (by omega) hlen rfl rfl ?_
            refine RT_step (pc2 := 116) rfl (fun _ _ => rfl) ?_
            refine ow_gf rfl rfl rfl hlen rfl ?_
            refine RT_step (pc2 := 120) rfl (fun _ _ => rfl) ?_
            refine rt_ico rfl ki_2 ?_
            refine ba_iadd rfl ?_
            rw [n_add]
            refine rt_ico rfl ki_0 ?_
            refine ow_iasN (l2 := ((180, mcl (Int32.ofNat 0) (Int32.ofNat 0) n lim a pl (km kd) nm sg (Int32.ofNat 0) qm wd td (posb vs o)) :: (181, mtl ts) :: [(182, ia nw), (187, lng nz), (200, ia (((li.set (4 * o) (Int32.ofNat 5)).set (4 * o + 1) (Int32.ofNat j0)).set (4 * o + 2) (Int32.ofNat 0)))])) rfl rfl (by (try simp only [List.length_set]); omega) (by omega) hlen rfl rfl ?_
            refine RT_step (pc2 := 125) rfl (fun _ _ => rfl) ?_
            refine ow_gf rfl rfl rfl hlen rfl ?_
            refine RT_step (pc2 := 129) rfl (fun _ _ => rfl) ?_
            refine rt_ico rfl ki_3 ?_
            refine ba_iadd rfl ?_
            rw [n_add]
            refine rt_ico rfl ki_0 ?_
            refine ow_iasN (l2 := ((180, mcl (Int32.ofNat 0) (Int32.ofNat 0) n lim a pl (km kd) nm sg (Int32.ofNat 0) qm wd td (posb vs o)) :: (181, mtl ts) :: [(182, ia nw), (187, lng nz), (200, ia ((((li.set (4 * o) (Int32.ofNat 5)).set (4 * o + 1) (Int32.ofNat j0)).set (4 * o + 2) (Int32.ofNat 0)).set (4 * o + 3) (Int32.ofNat 0)))])) rfl rfl (by (try simp only [List.length_set]); omega) (by omega) hlen rfl rfl ?_
            refine RT_step (pc2 := 134) rfl (fun _ _ => rfl) ?_
            refine ow_iv0 (l2 := ((180, mcl (Int32.ofNat 0) (Int32.ofNat 0) n lim a1 pl1 (km kd1) nm1 sg1 (Int32.ofNat 0) qm1 wd1 td (posb vs o)) :: (181, mtl ts) :: [(182, ia nw), (187, lng nz), (200, ia ((((li.set (4 * o) (Int32.ofNat 5)).set (4 * o + 1) (Int32.ofNat j0)).set (4 * o + 2) (Int32.ofNat 0)).set (4 * o + 3) (Int32.ofNat 0)))])) rfl rfl rfl rfl hlen rfl rfl rfl ((m1 _ (ov_hl hlen) (ov_at rfl (ov_lt hlen (by decide))) (ov_at rfl (ov_lt hlen (by decide)))).up (by omega)) rfl ?_
            refine RT_step (pc2 := 138) rfl (fun _ _ => rfl) ?_
            refine bcT_eq rfl (b01_f hd0) ?_
            refine RT_step (pc2 := 162) rfl (fun _ _ => rfl) ?_
            refine RT_step (pc2 := 163) rfl (fun _ _ => rfl) ?_
            refine ow_iv1 (l2 := ((180, M) :: (181, mtl ts) :: [(182, ia nw), (187, lng nz), (200, ia li2)])) rfl rfl rfl rfl hlen rfl rfl rfl ((h.2 H hlen).up (by omega)) rfl ?_
            refine bcF_eq rfl (by decide) ?_
            exact hq _ rfl
      · subst cv
        have hk11 := w_k1 t1 (by decide)
        obtain ⟨T2, M2, c2, x2, m2⟩ := s_adv hB hM hb hn hl (po := (posb vs o)) (pl := pl1) (tk := tk) (td := td) (fp := fp1) (plM := qm1) t1 (by omega) (by omega)
        obtain ⟨a2, kd2, pl2, w2, le2, nu2, fp2, nm2, sg2, qm2, wd2, rfl, rfl, t2⟩ := c2
        obtain ⟨v1, v2, v3, v4, bx2, hadd⟩ := bx_add bx ho (Int32.ofNat 20) (Int32.ofNat j0) (Int32.ofNat 0) (Int32.ofNat 0)
        refine Or.inr ⟨ho, _, tk, td, tcl n lim a2 kd2 pl2 w2 le2 nu2 tk (Int32.ofNat 0) fp2, mcl (Int32.ofNat 0) (Int32.ofNat 0) n lim a2 pl2 (km kd2) nm2 sg2 (Int32.ofNat 0) qm2 wd2 td (posb vs o), v1, v2, v3, v4, (((((li.set (4 * o) (Int32.ofNat 5)).set (4 * o + 1) (Int32.ofNat j0)).set (4 * o + 2) (Int32.ofNat 0)).set (4 * o + 3) (Int32.ofNat 0)).set (4 * o) (Int32.ofNat 2)), tf_td t2, bx2, by simp only [List.length_set]; exact ln, fun H hlen => ?_, fun H dd q hlen hq => ?_⟩
        · have hz : FR 2 71 [.ref 1, .ref 14, .int (Int32.ofNat P)] (ov H ((1, tcl n lim a kd pl w le nu tk (Int32.ofNat 0) fp) :: (2, bcl bs) :: [(13, dcl13 P Dn lw cl id gl bo), (14, lng pn), (15, ia ri), (16, ia lf), (17, ia wa), (18, ia fo), (19, lng dn), (20, ia ha), (21, ia pa), (22, ia bl), (105, bkc o bv), (106, ia u1), (107, ia u2), (108, ia u3), (109, ia u4)])) (some (.int (Int32.ofNat j0)), ov (ov H ((1, tcl n lim a kd pl w le nu tk (Int32.ofNat 0) fp) :: (2, bcl bs) :: [(13, dcl13 P Dn lw cl id gl bo), (14, lng pn), (15, ia ri), (16, ia lf), (17, ia wa), (18, ia fo), (19, lng dn), (20, ia ha), (21, ia pa), (22, ia bl), (105, bkc o bv), (106, ia u1), (107, ia u2), (108, ia u3), (109, ia u4)])) [(1, tcl n lim a kd pl w le nu tk (Int32.ofNat 0) fp)]) := by
            refine FR_st2 (l2 := ((1, tcl n lim a kd pl w le nu tk (Int32.ofNat 0) fp) :: (2, bcl bs) :: [(13, dcl13 P Dn lw cl id gl bo), (14, lng pn), (15, ia ri), (16, ia lf), (17, ia wa), (18, ia fo), (19, lng dn), (20, ia ha), (21, ia pa), (22, ia bl), (105, bkc o bv), (106, ia u1), (107, ia u2), (108, ia u3), (109, ia u4)])) rfl rfl rfl ?_
            refine RT_step (pc2 := 1) rfl (fun _ _ => rfl) ?_
            refine ow_gf rfl rfl rfl hlen rfl ?_
            refine RT_step (pc2 := 7) rfl (fun _ _ => rfl) ?_
            refine rt_acE rfl (by omega) (by omega) ?_
            refine RT_if c ?_
            refine RT_step (pc2 := 19) rfl (fun _ _ => rfl) ?_
            refine RT_step (pc2 := 20) rfl (fun _ _ => rfl) ?_
            refine RT_step (pc2 := 21) rfl (fun _ _ => rfl) ?_
            refine ow_gf rfl rfl rfl hlen rfl ?_
            refine ow_is1 rfl rfl rfl rfl rfl ((x_find14 (ov_hl hlen) (ov_at rfl (ov_lt hlen (by decide))) (by omega) (by omega)).up (by decide)) rfl ?_
            rw [show fdI (fd pn le 0 P 0) = Int32.ofNat j0 from by rw [e0]; rfl]
            refine RT_step (pc2 := 28) rfl (fun _ _ => rfl) ?_
            refine RT_step (pc2 := 29) rfl (fun _ _ => rfl) ?_
            refine rt_ico rfl ki_m1 ?_
            refine biF_ne rfl (n_m1 (by omega)) ?_
            refine RT_step (pc2 := 40) rfl (fun _ _ => rfl) ?_
            exact ow_irt rfl rfl rfl
          have hy : FR 3 73 [.ref 13, .ref 1] (ov H ((1, tcl n lim a kd pl w le nu tk (Int32.ofNat 0) fp) :: (2, bcl bs) :: [(13, dcl13 P Dn lw cl id gl bo), (14, lng pn), (15, ia ri), (16, ia lf), (17, ia wa), (18, ia fo), (19, lng dn), (20, ia ha), (21, ia pa), (22, ia bl), (105, bkc o bv), (106, ia u1), (107, ia u2), (108, ia u3), (109, ia u4)])) (some (.int (Int32.ofNat j0)), ov (ov H ((1, tcl n lim a kd pl w le nu tk (Int32.ofNat 0) fp) :: (2, bcl bs) :: [(13, dcl13 P Dn lw cl id gl bo), (14, lng pn), (15, ia ri), (16, ia lf), (17, ia wa), (18, ia fo), (19, lng dn), (20, ia ha), (21, ia pa), (22, ia bl), (105, bkc o bv), (106, ia u1), (107, ia u2), (108, ia u3), (109, ia u4)])) [(1, tcl n lim a kd pl w le nu tk (Int32.ofNat 0) fp)]) := by
            refine FR_st2 (l2 := ((1, tcl n lim a kd pl w le nu tk (Int32.ofNat 0) fp) :: (2, bcl bs) :: [(13, dcl13 P Dn lw cl id gl bo), (14, lng pn), (15, ia ri), (16, ia lf), (17, ia wa), (18, ia fo), (19, lng dn), (20, ia ha), (21, ia pa), (22, ia bl), (105, bkc o bv), (106, ia u1), (107, ia u2), (108, ia u3), (109, ia u4)])) rfl rfl rfl ?_
            refine RT_step (pc2 := 1) rfl (fun _ _ => rfl) ?_
            refine RT_step (pc2 := 2) rfl (fun _ _ => rfl) ?_
            refine ow_gf rfl rfl rfl hlen rfl ?_
            refine RT_step (pc2 := 6) rfl (fun _ _ => rfl) ?_
            refine ow_gf rfl rfl rfl hlen rfl ?_
            refine ow_is1 (l2 := ((1, tcl n lim a kd pl w le nu tk (Int32.ofNat 0) fp) :: (2, bcl bs) :: [(13, dcl13 P Dn lw cl id gl bo), (14, lng pn), (15, ia ri), (16, ia lf), (17, ia wa), (18, ia fo), (19, lng dn), (20, ia ha), (21, ia pa), (22, ia bl), (105, bkc o bv), (106, ia u1), (107, ia u2), (108, ia u3), (109, ia u4)])) rfl rfl rfl rfl rfl (hz.up (by decide)) rfl ?_
            exact ow_irt rfl rfl rfl
          refine FR_st2 (l2 := ((1, tcl n lim a2 kd2 pl2 w2 le2 nu2 tk (Int32.ofNat 0) fp2) :: (2, bcl bs) :: [(13, dcl13 P Dn lw cl id gl bo), (14, lng pn), (15, ia ri), (16, ia lf), (17, ia wa), (18, ia fo), (19, lng dn), (20, ia ha), (21, ia pa), (22, ia bl), (105, bkc (o + 1) bv), (106, ia v1), (107, ia v2), (108, ia v3), (109, ia v4)])) rfl rfl rfl ?_
          refine RT_step (pc2 := 1) rfl (fun _ _ => rfl) ?_
          refine RT_step (pc2 := 2) rfl (fun _ _ => rfl) ?_
          refine ow_iv1 (l2 := ((1, tcl n lim a kd pl w le nu tk (Int32.ofNat 0) fp) :: (2, bcl bs) :: [(13, dcl13 P Dn lw cl id gl bo), (14, lng pn), (15, ia ri), (16, ia lf), (17, ia wa), (18, ia fo), (19, lng dn), (20, ia ha), (21, ia pa), (22, ia bl), (105, bkc o bv), (106, ia u1), (107, ia u2), (108, ia u3), (109, ia u4)])) rfl rfl rfl rfl hlen rfl rfl rfl (hy.up (by decide)) rfl ?_
          refine RT_step (pc2 := 6) rfl (fun _ _ => rfl) ?_
          refine RT_step (pc2 := 7) rfl (fun _ _ => rfl) ?_
          refine rt_ico rfl ki_m1 ?_
          refine biF_ne rfl (n_m1 (by omega)) ?_
          refine RT_step (pc2 := 14) rfl (fun _ _ => rfl) ?_
          refine ow_gf rfl rfl rfl hlen rfl ?_
          refine rt_bip rfl k8_40 ?_
          refine biT_lt rfl (n_lt (by omega) (by omega)) ?_
          refine RT_step (pc2 := 29) rfl (fun _ _ => rfl) ?_
          refine ow_iv0 (l2 := ((1, tcl n lim a1 kd1 pl1 13 le1 nu1 tk (Int32.ofNat 0) fp1) :: (2, bcl bs) :: [(13, dcl13 P Dn lw cl id gl bo), (14, lng pn), (15, ia ri), (16, ia lf), (17, ia wa), (18, ia fo), (19, lng dn), (20, ia ha), (21, ia pa), (22, ia bl), (105, bkc o bv), (106, ia u1), (107, ia u2), (108, ia u3), (109, ia u4)])) rfl rfl rfl rfl hlen rfl rfl rfl ((x1 _ (ov_hl hlen) (ov_at rfl (ov_lt hlen (by decide))) (ov_at rfl (ov_lt hlen (by decide)))).up (by decide)) rfl ?_
          refine RT_step (pc2 := 33) rfl (fun _ _ => rfl) ?_
          refine ow_gf rfl rfl rfl hlen rfl ?_
          refine RT_step (pc2 := 38) rfl (fun _ _ => rfl) ?_
          refine RT_step (pc2 := 41) rfl (fun _ _ => rfl) ?_
          refine RT_step (pc2 := 43) rfl (fun _ _ => rfl) ?_
          refine rt_ord rfl (by decide) rfl ?_
          refine rt_isw rfl (v := 10) (by decide +kernel) ?_
          refine RT_step (pc2 := 96) rfl (fun _ _ => rfl) ?_
          refine RT_step (pc2 := 97) rfl (fun _ _ => rfl) ?_
          refine rt_bip rfl k8_20 ?_
          refine RT_step (pc2 := 100) rfl (fun _ _ => rfl) ?_
          refine rt_ico rfl ki_0 ?_
          refine rt_ico rfl ki_0 ?_
          refine ow_iv0 (l2 := ((1, tcl n lim a1 kd1 pl1 13 le1 nu1 tk (Int32.ofNat 0) fp1) :: (2, bcl bs) :: [(13, dcl13 P Dn lw cl id gl bo), (14, lng pn), (15, ia ri), (16, ia lf), (17, ia wa), (18, ia fo), (19, lng dn), (20, ia ha), (21, ia pa), (22, ia bl), (105, bkc (o + 1) bv), (106, ia v1), (107, ia v2), (108, ia v3), (109, ia v4)])) rfl rfl rfl rfl hlen rfl rfl rfl ((hadd bv _ (ov_hl hlen) (ov_at rfl (ov_lt hlen (by decide))) (ov_at rfl (ov_lt hlen (by decide))) (ov_at rfl (ov_lt hlen (by decide))) (ov_at rfl (ov_lt hlen (by decide))) (ov_at rfl (ov_lt hlen (by decide)))).up (by decide)) rfl ?_
          refine RT_step (pc2 := 138) rfl (fun _ _ => rfl) ?_
          refine RT_step (pc2 := 139) rfl (fun _ _ => rfl) ?_
          refine ow_iv0 (l2 := ((1, tcl n lim a2 kd2 pl2 w2 le2 nu2 tk (Int32.ofNat 0) fp2) :: (2, bcl bs) :: [(13, dcl13 P Dn lw cl id gl bo), (14, lng pn), (15, ia ri), (16, ia lf), (17, ia wa), (18, ia fo), (19, lng dn), (20, ia ha), (21, ia pa), (22, ia bl), (105, bkc (o + 1) bv), (106, ia v1), (107, ia v2), (108, ia v3), (109, ia v4)])) rfl rfl rfl rfl hlen rfl rfl rfl ((x2 _ (ov_hl hlen) (ov_at rfl (ov_lt hlen (by decide))) (ov_at rfl (ov_lt hlen (by decide)))).up (by decide)) rfl ?_
          refine rt_ico rfl ki_1 ?_
          exact ow_irt rfl rfl rfl
        · have hv2 : FR 8 250 [.ref 180, .int (Int32.ofNat (4 * o))] (ov H ((180, mcl (Int32.ofNat 0) (Int32.ofNat 0) n lim a1 pl1 (km kd1) nm1 sg1 (Int32.ofNat 0) qm1 wd1 td (posb vs o)) :: (181, mtl ts) :: [(182, ia nw), (187, lng nz), (200, ia ((((li.set (4 * o) (Int32.ofNat 5)).set (4 * o + 1) (Int32.ofNat j0)).set (4 * o + 2) (Int32.ofNat 0)).set (4 * o + 3) (Int32.ofNat 0)))])) (some (.int (Int32.ofNat 1)), ov (ov H ((180, mcl (Int32.ofNat 0) (Int32.ofNat 0) n lim a1 pl1 (km kd1) nm1 sg1 (Int32.ofNat 0) qm1 wd1 td (posb vs o)) :: (181, mtl ts) :: [(182, ia nw), (187, lng nz), (200, ia ((((li.set (4 * o) (Int32.ofNat 5)).set (4 * o + 1) (Int32.ofNat j0)).set (4 * o + 2) (Int32.ofNat 0)).set (4 * o + 3) (Int32.ofNat 0)))])) [(180, mcl (Int32.ofNat 0) (Int32.ofNat 0) n lim a2 pl2 (km kd2) nm2 sg2 (Int32.ofNat 0) qm2 wd2 td (posb vs o)), (200, ia (((((li.set (4 * o) (Int32.ofNat 5)).set (4 * o + 1) (Int32.ofNat j0)).set (4 * o + 2) (Int32.ofNat 0)).set (4 * o + 3) (Int32.ofNat 0)).set (4 * o) (Int32.ofNat 2)))]) := by
            refine FR_st2 (l2 := ((180, mcl (Int32.ofNat 0) (Int32.ofNat 0) n lim a2 pl2 (km kd2) nm2 sg2 (Int32.ofNat 0) qm2 wd2 td (posb vs o)) :: (181, mtl ts) :: [(182, ia nw), (187, lng nz), (200, ia (((((li.set (4 * o) (Int32.ofNat 5)).set (4 * o + 1) (Int32.ofNat j0)).set (4 * o + 2) (Int32.ofNat 0)).set (4 * o + 3) (Int32.ofNat 0)).set (4 * o) (Int32.ofNat 2)))])) rfl rfl rfl ?_
            refine rt_bip rfl k8_8 ?_
            refine RT_step (pc2 := 3) rfl (fun _ _ => rfl) ?_
            refine m_vl (z := Int32.ofNat (4 * o)) hlen (km_is kd1 t1.2.2.2.1).2.2.2.2.2 5 8 _ rfl rfl rfl rfl (fun L2 l0 l1 lw => ?_)
            rw [wj_le t1 5 8 (by decide), jv] at lw
            refine rt_ild rfl lw ?_
            refine rt_bip rfl k8_12 ?_
            refine biT_le rfl (n_le (by decide) (by decide)) ?_
            refine rt_ald rfl l0 ?_
            refine ow_gf rfl rfl rfl hlen rfl ?_
            refine rt_ild rfl l1 ?_
            refine rt_ild rfl lw ?_
            refine rt_bip rfl k8_8 ?_
            refine ba_isub rfl ?_
            rw [show Int32.ofNat 10 - Int32.ofNat 8 = Int32.ofNat 2 from rfl]
            refine ow_iasN (l2 := ((180, mcl (Int32.ofNat 0) (Int32.ofNat 0) n lim a1 pl1 (km kd1) nm1 sg1 (Int32.ofNat 0) qm1 wd1 td (posb vs o)) :: (181, mtl ts) :: [(182, ia nw), (187, lng nz), (200, ia (((((li.set (4 * o) (Int32.ofNat 5)).set (4 * o + 1) (Int32.ofNat j0)).set (4 * o + 2) (Int32.ofNat 0)).set (4 * o + 3) (Int32.ofNat 0)).set (4 * o) (Int32.ofNat 2)))])) rfl rfl (by (try simp only [List.length_set]); omega) (by omega) hlen rfl rfl ?_
            refine rt_ald rfl l0 ?_
            refine ow_iv0 (l2 := ((180, mcl (Int32.ofNat 0) (Int32.ofNat 0) n lim a2 pl2 (km kd2) nm2 sg2 (Int32.ofNat 0) qm2 wd2 td (posb vs o)) :: (181, mtl ts) :: [(182, ia nw), (187, lng nz), (200, ia (((((li.set (4 * o) (Int32.ofNat 5)).set (4 * o + 1) (Int32.ofNat j0)).set (4 * o + 2) (Int32.ofNat 0)).set (4 * o + 3) (Int32.ofNat 0)).set (4 * o) (Int32.ofNat 2)))])) rfl rfl rfl rfl hlen rfl rfl rfl ((m2 _ (ov_hl hlen) (ov_at rfl (ov_lt hlen (by decide))) (ov_at rfl (ov_lt hlen (by decide)))).up (by omega)) rfl ?_
            refine rt_ald rfl l0 ?_
            refine ow_gf rfl rfl rfl hlen rfl ?_
            refine rt_ild rfl l1 ?_
            refine ow_ialN rfl rfl (List.getElem?_set_self (by simp only [List.length_set]; omega)) (by omega) hlen rfl ?_
            refine RT_step (pc2 := 141) rfl (fun _ _ => rfl) ?_
            refine rt_ico rfl ki_1 ?_
            exact ow_irt rfl rfl rfl
          refine RT_step (pc2 := 1) rfl (fun _ _ => rfl) ?_
          refine rt_bip rfl k8_16 ?_
          refine ow_iv1 (l2 := ((180, mcl (Int32.ofNat 0) (Int32.ofNat 0) n lim a pl (km kd) nm sg (Int32.ofNat 0) qm wd td (posb vs o)) :: (181, mtl ts) :: [(182, ia nw), (187, lng nz), (200, ia li)])) rfl rfl rfl rfl hlen rfl rfl rfl ((m_isWord (k := 16) (ov_hl hlen) (ov_at rfl (ov_lt hlen (by decide))) (km_is kd t.2.2.2.1).2.2.2.2.2 (by decide)).up (by omega)) rfl ?_
          refine RT_step (pc2 := 7) rfl (fun _ _ => rfl) ?_
          refine RT_step (pc2 := 8) rfl (fun _ _ => rfl) ?_
          refine bcT_ne rfl (b01_f hd0) ?_
          refine RT_step (pc2 := 12) rfl (fun _ _ => rfl) ?_
          refine ow_iv1 (l2 := ((180, mcl (Int32.ofNat 0) (Int32.ofNat 0) n lim a pl (km kd) nm sg (Int32.ofNat 0) qm wd td (posb vs o)) :: (181, mtl ts) :: [(182, ia nw), (187, lng nz), (200, ia li)])) rfl rfl rfl rfl hlen rfl rfl rfl ((m_isName (ov_hl hlen) (ov_at rfl (ov_lt hlen (by decide))) (km_is kd t.2.2.2.1).2.2.2.2.2).up (by omega)) rfl ?_
          refine bcF_ne rfl (b01_t hnm) ?_
          refine RT_step (pc2 := 25) rfl (fun _ _ => rfl) ?_
          refine ow_gf rfl rfl rfl hlen rfl ?_
          refine rt_ico rfl ki_0 ?_
          refine RT_step (pc2 := 30) rfl (fun _ _ => rfl) ?_
          refine ow_gf rfl rfl rfl hlen rfl ?_
          refine rt_ico rfl ki_0 ?_
          refine ow_ialN rfl rfl hv (by omega) hlen rfl ?_
          refine RT_step (pc2 := 36) rfl (fun _ _ => rfl) ?_
          refine ow_gf rfl rfl rfl hlen rfl ?_
          refine ow_is1 (l2 := ((180, mcl (Int32.ofNat 0) (Int32.ofNat 0) n lim a pl (km kd) nm sg (Int32.ofNat 0) qm wd td (posb vs o)) :: (181, mtl ts) :: [(182, ia nw), (187, lng nz), (200, ia li)])) rfl rfl rfl rfl rfl ((m_find7 (bs0 := 0) (cnt := P) (ov_hl hlen) (ov_at rfl (ov_lt hlen (by decide))) (by omega) (by omega)).up (by omega)) rfl ?_
          rw [show fdI (fd nz wd 0 P 0) = Int32.ofNat j0 from by rw [g0]; rfl]
          refine rt_ico rfl ki_m1 ?_
          refine biF_ne rfl (n_m1 (by omega)) ?_
          refine RT_step (pc2 := 53) rfl (fun _ _ => rfl) ?_
          refine ow_gf rfl rfl rfl hlen rfl ?_
          refine rt_bip rfl k8_40 ?_
          refine biF_ne rfl (n_ne co (by omega) (by omega)) ?_
          refine rt_ico rfl ki_4 ?_
          refine RT_step (pc2 := 69) rfl (fun _ _ => rfl) ?_
          refine ow_gf rfl rfl rfl hlen rfl ?_
          refine ba_imul rfl ?_
          rw [nmul4]
          refine RT_step (pc2 := 74) rfl (fun _ _ => rfl) ?_
          refine RT_step (pc2 := 75) rfl (fun _ _ => rfl) ?_
          refine ow_gf rfl rfl rfl hlen rfl ?_
          refine RT_step (pc2 := 79) rfl (fun _ _ => rfl) ?_
          refine rt_ico rfl ki_5 ?_
          refine ow_iasN (l2 := ((180, mcl (Int32.ofNat 0) (Int32.ofNat 0) n lim a pl (km kd) nm sg (Int32.ofNat 0) qm wd td (posb vs o)) :: (181, mtl ts) :: [(182, ia nw), (187, lng nz), (200, ia (li.set (4 * o) (Int32.ofNat 5)))])) rfl rfl (by (try simp only [List.length_set]); omega) (by omega) hlen rfl rfl ?_
          refine RT_step (pc2 := 82) rfl (fun _ _ => rfl) ?_
          refine ow_gf rfl rfl rfl hlen rfl ?_
          refine RT_step (pc2 := 86) rfl (fun _ _ => rfl) ?_
          refine rt_ico rfl ki_1 ?_
          refine ba_iadd rfl ?_
          rw [n_add]
          refine RT_step (pc2 := 89) rfl (fun _ _ => rfl) ?_
          refine bcT_eq rfl (b01_f hd0) ?_
          refine RT_step (pc2 := 97) rfl (fun _ _ => rfl) ?_
          refine ow_gf rfl rfl rfl hlen rfl ?_
          refine rt_ico rfl ki_0 ?_
          refine RT_step (pc2 := 102) rfl (fun _ _ => rfl) ?_
          refine ow_gf rfl rfl rfl hlen rfl ?_
          refine rt_ico rfl ki_0 ?_
          refine ow_ialN rfl rfl hv (by omega) hlen rfl ?_
          refine RT_step (pc2 := 108) rfl (fun _ _ => rfl) ?_
          refine ow_gf rfl rfl rfl hlen rfl ?_
          refine ow_is1 (l2 := ((180, mcl (Int32.ofNat 0) (Int32.ofNat 0) n lim a pl (km kd) nm sg (Int32.ofNat 0) qm wd td (posb vs o)) :: (181, mtl ts) :: [(182, ia nw), (187, lng nz), (200, ia (li.set (4 * o) (Int32.ofNat 5)))])) rfl rfl rfl rfl rfl ((m_find7 (bs0 := 0) (cnt := P) (ov_hl hlen) (ov_at rfl (ov_lt hlen (by decide))) (by omega) (by omega)).up (by omega)) rfl ?_
          rw [show fdI (fd nz wd 0 P 0) = Int32.ofNat j0 from by rw [g0]; rfl]
          refine ow_iasN (l2 := ((180, mcl (Int32.ofNat 0) (Int32.ofNat 0) n lim a pl (km kd) nm sg (Int32.ofNat 0) qm wd td (posb vs o)) :: (181, mtl ts) :: [(182, ia nw), (187, lng nz), (200, ia ((li.set (4 * o) (Int32.ofNat 5)).set (4 * o + 1) (Int32.ofNat j0)))])) rfl rfl (by (try simp only [List.length_set]); omega) (by omega) hlen rfl rfl ?_
          refine RT_step (pc2 := 116) rfl (fun _ _ => rfl) ?_
          refine ow_gf rfl rfl rfl hlen rfl ?_
          refine RT_step (pc2 := 120) rfl (fun _ _ => rfl) ?_
          refine rt_ico rfl ki_2 ?_
          refine ba_iadd rfl ?_
          rw [n_add]
          refine rt_ico rfl ki_0 ?_
          refine ow_iasN (l2 := ((180, mcl (Int32.ofNat 0) (Int32.ofNat 0) n lim a pl (km kd) nm sg (Int32.ofNat 0) qm wd td (posb vs o)) :: (181, mtl ts) :: [(182, ia nw), (187, lng nz), (200, ia (((li.set (4 * o) (Int32.ofNat 5)).set (4 * o + 1) (Int32.ofNat j0)).set (4 * o + 2) (Int32.ofNat 0)))])) rfl rfl (by (try simp only [List.length_set]); omega) (by omega) hlen rfl rfl ?_
          refine RT_step (pc2 := 125) rfl (fun _ _ => rfl) ?_
          refine ow_gf rfl rfl rfl hlen rfl ?_
          refine RT_step (pc2 := 129) rfl (fun _ _ => rfl) ?_
          refine rt_ico rfl ki_3 ?_
          refine ba_iadd rfl ?_
          rw [n_add]
          refine rt_ico rfl ki_0 ?_
          refine ow_iasN (l2 := ((180, mcl (Int32.ofNat 0) (Int32.ofNat 0) n lim a pl (km kd) nm sg (Int32.ofNat 0) qm wd td (posb vs o)) :: (181, mtl ts) :: [(182, ia nw), (187, lng nz), (200, ia ((((li.set (4 * o) (Int32.ofNat 5)).set (4 * o + 1) (Int32.ofNat j0)).set (4 * o + 2) (Int32.ofNat 0)).set (4 * o + 3) (Int32.ofNat 0)))])) rfl rfl (by (try simp only [List.length_set]); omega) (by omega) hlen rfl rfl ?_
          refine RT_step (pc2 := 134) rfl (fun _ _ => rfl) ?_
          refine ow_iv0 (l2 := ((180, mcl (Int32.ofNat 0) (Int32.ofNat 0) n lim a1 pl1 (km kd1) nm1 sg1 (Int32.ofNat 0) qm1 wd1 td (posb vs o)) :: (181, mtl ts) :: [(182, ia nw), (187, lng nz), (200, ia ((((li.set (4 * o) (Int32.ofNat 5)).set (4 * o + 1) (Int32.ofNat j0)).set (4 * o + 2) (Int32.ofNat 0)).set (4 * o + 3) (Int32.ofNat 0)))])) rfl rfl rfl rfl hlen rfl rfl rfl ((m1 _ (ov_hl hlen) (ov_at rfl (ov_lt hlen (by decide))) (ov_at rfl (ov_lt hlen (by decide)))).up (by omega)) rfl ?_
          refine RT_step (pc2 := 138) rfl (fun _ _ => rfl) ?_
          refine bcT_eq rfl (b01_f hd0) ?_
          refine RT_step (pc2 := 162) rfl (fun _ _ => rfl) ?_
          refine RT_step (pc2 := 163) rfl (fun _ _ => rfl) ?_
          refine ow_iv1 (l2 := ((180, mcl (Int32.ofNat 0) (Int32.ofNat 0) n lim a2 pl2 (km kd2) nm2 sg2 (Int32.ofNat 0) qm2 wd2 td (posb vs o)) :: (181, mtl ts) :: [(182, ia nw), (187, lng nz), (200, ia (((((li.set (4 * o) (Int32.ofNat 5)).set (4 * o + 1) (Int32.ofNat j0)).set (4 * o + 2) (Int32.ofNat 0)).set (4 * o + 3) (Int32.ofNat 0)).set (4 * o) (Int32.ofNat 2)))])) rfl rfl rfl rfl hlen rfl rfl rfl (hv2.up (by omega)) rfl ?_
          refine bcF_eq rfl (by decide) ?_
          exact hq _ rfl
      · subst cv
        have hk11 := w_k1 t1 (by decide)
        obtain ⟨T2, M2, c2, x2, m2⟩ := s_adv hB hM hb hn hl (po := (posb vs o)) (pl := pl1) (tk := tk) (td := td) (fp := fp1) (plM := qm1) t1 (by omega) (by omega)
        obtain ⟨a2, kd2, pl2, w2, le2, nu2, fp2, nm2, sg2, qm2, wd2, rfl, rfl, t2⟩ := c2
        obtain ⟨v1, v2, v3, v4, bx2, hadd⟩ := bx_add bx ho (Int32.ofNat 30) (Int32.ofNat j0) (Int32.ofNat 0) (Int32.ofNat 0)
        refine Or.inr ⟨ho, _, tk, td, tcl n lim a2 kd2 pl2 w2 le2 nu2 tk (Int32.ofNat 0) fp2, mcl (Int32.ofNat 0) (Int32.ofNat 0) n lim a2 pl2 (km kd2) nm2 sg2 (Int32.ofNat 0) qm2 wd2 td (posb vs o), v1, v2, v3, v4, (((((li.set (4 * o) (Int32.ofNat 5)).set (4 * o + 1) (Int32.ofNat j0)).set (4 * o + 2) (Int32.ofNat 0)).set (4 * o + 3) (Int32.ofNat 0)).set (4 * o) (Int32.ofNat 3)), tf_td t2, bx2, by simp only [List.length_set]; exact ln, fun H hlen => ?_, fun H dd q hlen hq => ?_⟩
        · have hz : FR 2 71 [.ref 1, .ref 14, .int (Int32.ofNat P)] (ov H ((1, tcl n lim a kd pl w le nu tk (Int32.ofNat 0) fp) :: (2, bcl bs) :: [(13, dcl13 P Dn lw cl id gl bo), (14, lng pn), (15, ia ri), (16, ia lf), (17, ia wa), (18, ia fo), (19, lng dn), (20, ia ha), (21, ia pa), (22, ia bl), (105, bkc o bv), (106, ia u1), (107, ia u2), (108, ia u3), (109, ia u4)])) (some (.int (Int32.ofNat j0)), ov (ov H ((1, tcl n lim a kd pl w le nu tk (Int32.ofNat 0) fp) :: (2, bcl bs) :: [(13, dcl13 P Dn lw cl id gl bo), (14, lng pn), (15, ia ri), (16, ia lf), (17, ia wa), (18, ia fo), (19, lng dn), (20, ia ha), (21, ia pa), (22, ia bl), (105, bkc o bv), (106, ia u1), (107, ia u2), (108, ia u3), (109, ia u4)])) [(1, tcl n lim a kd pl w le nu tk (Int32.ofNat 0) fp)]) := by
            refine FR_st2 (l2 := ((1, tcl n lim a kd pl w le nu tk (Int32.ofNat 0) fp) :: (2, bcl bs) :: [(13, dcl13 P Dn lw cl id gl bo), (14, lng pn), (15, ia ri), (16, ia lf), (17, ia wa), (18, ia fo), (19, lng dn), (20, ia ha), (21, ia pa), (22, ia bl), (105, bkc o bv), (106, ia u1), (107, ia u2), (108, ia u3), (109, ia u4)])) rfl rfl rfl ?_
            refine RT_step (pc2 := 1) rfl (fun _ _ => rfl) ?_
            refine ow_gf rfl rfl rfl hlen rfl ?_
            refine RT_step (pc2 := 7) rfl (fun _ _ => rfl) ?_
            refine rt_acE rfl (by omega) (by omega) ?_
            refine RT_if c ?_
            refine RT_step (pc2 := 19) rfl (fun _ _ => rfl) ?_
            refine RT_step (pc2 := 20) rfl (fun _ _ => rfl) ?_
            refine RT_step (pc2 := 21) rfl (fun _ _ => rfl) ?_
            refine ow_gf rfl rfl rfl hlen rfl ?_
            refine ow_is1 rfl rfl rfl rfl rfl ((x_find14 (ov_hl hlen) (ov_at rfl (ov_lt hlen (by decide))) (by omega) (by omega)).up (by decide)) rfl ?_
            rw [show fdI (fd pn le 0 P 0) = Int32.ofNat j0 from by rw [e0]; rfl]
            refine RT_step (pc2 := 28) rfl (fun _ _ => rfl) ?_
            refine RT_step (pc2 := 29) rfl (fun _ _ => rfl) ?_
            refine rt_ico rfl ki_m1 ?_
            refine biF_ne rfl (n_m1 (by omega)) ?_
            refine RT_step (pc2 := 40) rfl (fun _ _ => rfl) ?_
            exact ow_irt rfl rfl rfl
          have hy : FR 3 73 [.ref 13, .ref 1] (ov H ((1, tcl n lim a kd pl w le nu tk (Int32.ofNat 0) fp) :: (2, bcl bs) :: [(13, dcl13 P Dn lw cl id gl bo), (14, lng pn), (15, ia ri), (16, ia lf), (17, ia wa), (18, ia fo), (19, lng dn), (20, ia ha), (21, ia pa), (22, ia bl), (105, bkc o bv), (106, ia u1), (107, ia u2), (108, ia u3), (109, ia u4)])) (some (.int (Int32.ofNat j0)), ov (ov H ((1, tcl n lim a kd pl w le nu tk (Int32.ofNat 0) fp) :: (2, bcl bs) :: [(13, dcl13 P Dn lw cl id gl bo), (14, lng pn), (15, ia ri), (16, ia lf), (17, ia wa), (18, ia fo), (19, lng dn), (20, ia ha), (21, ia pa), (22, ia bl), (105, bkc o bv), (106, ia u1), (107, ia u2), (108, ia u3), (109, ia u4)])) [(1, tcl n lim a kd pl w le nu tk (Int32.ofNat 0) fp)]) := by
            refine FR_st2 (l2 := ((1, tcl n lim a kd pl w le nu tk (Int32.ofNat 0) fp) :: (2, bcl bs) :: [(13, dcl13 P Dn lw cl id gl bo), (14, lng pn), (15, ia ri), (16, ia lf), (17, ia wa), (18, ia fo), (19, lng dn), (20, ia ha), (21, ia pa), (22, ia bl), (105, bkc o bv), (106, ia u1), (107, ia u2), (108, ia u3), (109, ia u4)])) rfl rfl rfl ?_
            refine RT_step (pc2 := 1) rfl (fun _ _ => rfl) ?_
            refine RT_step (pc2 := 2) rfl (fun _ _ => rfl) ?_
            refine ow_gf rfl rfl rfl hlen rfl ?_
            refine RT_step (pc2 := 6) rfl (fun _ _ => rfl) ?_
            refine ow_gf rfl rfl rfl hlen rfl ?_
            refine ow_is1 (l2 := ((1, tcl n lim a kd pl w le nu tk (Int32.ofNat 0) fp) :: (2, bcl bs) :: [(13, dcl13 P Dn lw cl id gl bo), (14, lng pn), (15, ia ri), (16, ia lf), (17, ia wa), (18, ia fo), (19, lng dn), (20, ia ha), (21, ia pa), (22, ia bl), (105, bkc o bv), (106, ia u1), (107, ia u2), (108, ia u3), (109, ia u4)])) rfl rfl rfl rfl rfl (hz.up (by decide)) rfl ?_
            exact ow_irt rfl rfl rfl
          refine FR_st2 (l2 := ((1, tcl n lim a2 kd2 pl2 w2 le2 nu2 tk (Int32.ofNat 0) fp2) :: (2, bcl bs) :: [(13, dcl13 P Dn lw cl id gl bo), (14, lng pn), (15, ia ri), (16, ia lf), (17, ia wa), (18, ia fo), (19, lng dn), (20, ia ha), (21, ia pa), (22, ia bl), (105, bkc (o + 1) bv), (106, ia v1), (107, ia v2), (108, ia v3), (109, ia v4)])) rfl rfl rfl ?_
          refine RT_step (pc2 := 1) rfl (fun _ _ => rfl) ?_
          refine RT_step (pc2 := 2) rfl (fun _ _ => rfl) ?_
          refine ow_iv1 (l2 := ((1, tcl n lim a kd pl w le nu tk (Int32.ofNat 0) fp) :: (2, bcl bs) :: [(13, dcl13 P Dn lw cl id gl bo), (14, lng pn), (15, ia ri), (16, ia lf), (17, ia wa), (18, ia fo), (19, lng dn), (20, ia ha), (21, ia pa), (22, ia bl), (105, bkc o bv), (106, ia u1), (107, ia u2), (108, ia u3), (109, ia u4)])) rfl rfl rfl rfl hlen rfl rfl rfl (hy.up (by decide)) rfl ?_
          refine RT_step (pc2 := 6) rfl (fun _ _ => rfl) ?_
          refine RT_step (pc2 := 7) rfl (fun _ _ => rfl) ?_
          refine rt_ico rfl ki_m1 ?_
          refine biF_ne rfl (n_m1 (by omega)) ?_
          refine RT_step (pc2 := 14) rfl (fun _ _ => rfl) ?_
          refine ow_gf rfl rfl rfl hlen rfl ?_
          refine rt_bip rfl k8_40 ?_
          refine biT_lt rfl (n_lt (by omega) (by omega)) ?_
          refine RT_step (pc2 := 29) rfl (fun _ _ => rfl) ?_
          refine ow_iv0 (l2 := ((1, tcl n lim a1 kd1 pl1 14 le1 nu1 tk (Int32.ofNat 0) fp1) :: (2, bcl bs) :: [(13, dcl13 P Dn lw cl id gl bo), (14, lng pn), (15, ia ri), (16, ia lf), (17, ia wa), (18, ia fo), (19, lng dn), (20, ia ha), (21, ia pa), (22, ia bl), (105, bkc o bv), (106, ia u1), (107, ia u2), (108, ia u3), (109, ia u4)])) rfl rfl rfl rfl hlen rfl rfl rfl ((x1 _ (ov_hl hlen) (ov_at rfl (ov_lt hlen (by decide))) (ov_at rfl (ov_lt hlen (by decide)))).up (by decide)) rfl ?_
          refine RT_step (pc2 := 33) rfl (fun _ _ => rfl) ?_
          refine ow_gf rfl rfl rfl hlen rfl ?_
          refine RT_step (pc2 := 38) rfl (fun _ _ => rfl) ?_
          refine RT_step (pc2 := 41) rfl (fun _ _ => rfl) ?_
          refine RT_step (pc2 := 43) rfl (fun _ _ => rfl) ?_
          refine rt_ord rfl (by decide) rfl ?_
          refine rt_isw rfl (v := 11) (by decide +kernel) ?_
          refine RT_step (pc2 := 108) rfl (fun _ _ => rfl) ?_
          refine RT_step (pc2 := 109) rfl (fun _ _ => rfl) ?_
          refine rt_bip rfl k8_30 ?_
          refine RT_step (pc2 := 112) rfl (fun _ _ => rfl) ?_
          refine rt_ico rfl ki_0 ?_
          refine rt_ico rfl ki_0 ?_
          refine ow_iv0 (l2 := ((1, tcl n lim a1 kd1 pl1 14 le1 nu1 tk (Int32.ofNat 0) fp1) :: (2, bcl bs) :: [(13, dcl13 P Dn lw cl id gl bo), (14, lng pn), (15, ia ri), (16, ia lf), (17, ia wa), (18, ia fo), (19, lng dn), (20, ia ha), (21, ia pa), (22, ia bl), (105, bkc (o + 1) bv), (106, ia v1), (107, ia v2), (108, ia v3), (109, ia v4)])) rfl rfl rfl rfl hlen rfl rfl rfl ((hadd bv _ (ov_hl hlen) (ov_at rfl (ov_lt hlen (by decide))) (ov_at rfl (ov_lt hlen (by decide))) (ov_at rfl (ov_lt hlen (by decide))) (ov_at rfl (ov_lt hlen (by decide))) (ov_at rfl (ov_lt hlen (by decide)))).up (by decide)) rfl ?_
          refine RT_step (pc2 := 138) rfl (fun _ _ => rfl) ?_
          refine RT_step (pc2 := 139) rfl (fun _ _ => rfl) ?_
          refine ow_iv0 (l2 := ((1, tcl n lim a2 kd2 pl2 w2 le2 nu2 tk (Int32.ofNat 0) fp2) :: (2, bcl bs) :: [(13, dcl13 P Dn lw cl id gl bo), (14, lng pn), (15, ia ri), (16, ia lf), (17, ia wa), (18, ia fo), (19, lng dn), (20, ia ha), (21, ia pa), (22, ia bl), (105, bkc (o + 1) bv), (106, ia v1), (107, ia v2), (108, ia v3), (109, ia v4)])) rfl rfl rfl rfl hlen rfl rfl rfl ((x2 _ (ov_hl hlen) (ov_at rfl (ov_lt hlen (by decide))) (ov_at rfl (ov_lt hlen (by decide)))).up (by decide)) rfl ?_
          refine rt_ico rfl ki_1 ?_
          exact ow_irt rfl rfl rfl
        · have hv2 : FR 8 250 [.ref 180, .int (Int32.ofNat (4 * o))] (ov H ((180, mcl (Int32.ofNat 0) (Int32.ofNat 0) n lim a1 pl1 (km kd1) nm1 sg1 (Int32.ofNat 0) qm1 wd1 td (posb vs o)) :: (181, mtl ts) :: [(182, ia nw), (187, lng nz), (200, ia ((((li.set (4 * o) (Int32.ofNat 5)).set (4 * o + 1) (Int32.ofNat j0)).set (4 * o + 2) (Int32.ofNat 0)).set (4 * o + 3) (Int32.ofNat 0)))])) (some (.int (Int32.ofNat 1)), ov (ov H ((180, mcl (Int32.ofNat 0) (Int32.ofNat 0) n lim a1 pl1 (km kd1) nm1 sg1 (Int32.ofNat 0) qm1 wd1 td (posb vs o)) :: (181, mtl ts) :: [(182, ia nw), (187, lng nz), (200, ia ((((li.set (4 * o) (Int32.ofNat 5)).set (4 * o + 1) (Int32.ofNat j0)).set (4 * o + 2) (Int32.ofNat 0)).set (4 * o + 3) (Int32.ofNat 0)))])) [(180, mcl (Int32.ofNat 0) (Int32.ofNat 0) n lim a2 pl2 (km kd2) nm2 sg2 (Int32.ofNat 0) qm2 wd2 td (posb vs o)), (200, ia (((((li.set (4 * o) (Int32.ofNat 5)).set (4 * o + 1) (Int32.ofNat j0)).set (4 * o + 2) (Int32.ofNat 0)).set (4 * o + 3) (Int32.ofNat 0)).set (4 * o) (Int32.ofNat 3)))]) := by
            refine FR_st2 (l2 := ((180, mcl (Int32.ofNat 0) (Int32.ofNat 0) n lim a2 pl2 (km kd2) nm2 sg2 (Int32.ofNat 0) qm2 wd2 td (posb vs o)) :: (181, mtl ts) :: [(182, ia nw), (187, lng nz), (200, ia (((((li.set (4 * o) (Int32.ofNat 5)).set (4 * o + 1) (Int32.ofNat j0)).set (4 * o + 2) (Int32.ofNat 0)).set (4 * o + 3) (Int32.ofNat 0)).set (4 * o) (Int32.ofNat 3)))])) rfl rfl rfl ?_
            refine rt_bip rfl k8_8 ?_
            refine RT_step (pc2 := 3) rfl (fun _ _ => rfl) ?_
            refine m_vl (z := Int32.ofNat (4 * o)) hlen (km_is kd1 t1.2.2.2.1).2.2.2.2.2 5 8 _ rfl rfl rfl rfl (fun L2 l0 l1 lw => ?_)
            rw [wj_le t1 5 8 (by decide), jv] at lw
            refine rt_ild rfl lw ?_
            refine rt_bip rfl k8_12 ?_
            refine biT_le rfl (n_le (by decide) (by decide)) ?_
            refine rt_ald rfl l0 ?_
            refine ow_gf rfl rfl rfl hlen rfl ?_
            refine rt_ild rfl l1 ?_
            refine rt_ild rfl lw ?_
            refine rt_bip rfl k8_8 ?_
            refine ba_isub rfl ?_
            rw [show Int32.ofNat 11 - Int32.ofNat 8 = Int32.ofNat 3 from rfl]
            refine ow_iasN (l2 := ((180, mcl (Int32.ofNat 0) (Int32.ofNat 0) n lim a1 pl1 (km kd1) nm1 sg1 (Int32.ofNat 0) qm1 wd1 td (posb vs o)) :: (181, mtl ts) :: [(182, ia nw), (187, lng nz), (200, ia (((((li.set (4 * o) (Int32.ofNat 5)).set (4 * o + 1) (Int32.ofNat j0)).set (4 * o + 2) (Int32.ofNat 0)).set (4 * o + 3) (Int32.ofNat 0)).set (4 * o) (Int32.ofNat 3)))])) rfl rfl (by (try simp only [List.length_set]); omega) (by omega) hlen rfl rfl ?_
            refine rt_ald rfl l0 ?_
            refine ow_iv0 (l2 := ((180, mcl (Int32.ofNat 0) (Int32.ofNat 0) n lim a2 pl2 (km kd2) nm2 sg2 (Int32.ofNat 0) qm2 wd2 td (posb vs o)) :: (181, mtl ts) :: [(182, ia nw), (187, lng nz), (200, ia (((((li.set (4 * o) (Int32.ofNat 5)).set (4 * o + 1) (Int32.ofNat j0)).set (4 * o + 2) (Int32.ofNat 0)).set (4 * o + 3) (Int32.ofNat 0)).set (4 * o) (Int32.ofNat 3)))])) rfl rfl rfl rfl hlen rfl rfl rfl ((m2 _ (ov_hl hlen) (ov_at rfl (ov_lt hlen (by decide))) (ov_at rfl (ov_lt hlen (by decide)))).up (by omega)) rfl ?_
            refine rt_ald rfl l0 ?_
            refine ow_gf rfl rfl rfl hlen rfl ?_
            refine rt_ild rfl l1 ?_
            refine ow_ialN rfl rfl (List.getElem?_set_self (by simp only [List.length_set]; omega)) (by omega) hlen rfl ?_
            refine RT_step (pc2 := 141) rfl (fun _ _ => rfl) ?_
            refine rt_ico rfl ki_1 ?_
            exact ow_irt rfl rfl rfl
          refine RT_step (pc2 := 1) rfl (fun _ _ => rfl) ?_
          refine rt_bip rfl k8_16 ?_
          refine ow_iv1 (l2 := ((180, mcl (Int32.ofNat 0) (Int32.ofNat 0) n lim a pl (km kd) nm sg (Int32.ofNat 0) qm wd td (posb vs o)) :: (181, mtl ts) :: [(182, ia nw), (187, lng nz), (200, ia li)])) rfl rfl rfl rfl hlen rfl rfl rfl ((m_isWord (k := 16) (ov_hl hlen) (ov_at rfl (ov_lt hlen (by decide))) (km_is kd t.2.2.2.1).2.2.2.2.2 (by decide)).up (by omega)) rfl ?_
          refine RT_step (pc2 := 7) rfl (fun _ _ => rfl) ?_
          refine RT_step (pc2 := 8) rfl (fun _ _ => rfl) ?_
          refine bcT_ne rfl (b01_f hd0) ?_
          refine RT_step (pc2 := 12) rfl (fun _ _ => rfl) ?_
          refine ow_iv1 (l2 := ((180, mcl (Int32.ofNat 0) (Int32.ofNat 0) n lim a pl (km kd) nm sg (Int32.ofNat 0) qm wd td (posb vs o)) :: (181, mtl ts) :: [(182, ia nw), (187, lng nz), (200, ia li)])) rfl rfl rfl rfl hlen rfl rfl rfl ((m_isName (ov_hl hlen) (ov_at rfl (ov_lt hlen (by decide))) (km_is kd t.2.2.2.1).2.2.2.2.2).up (by omega)) rfl ?_
          refine bcF_ne rfl (b01_t hnm) ?_
          refine RT_step (pc2 := 25) rfl (fun _ _ => rfl) ?_
          refine ow_gf rfl rfl rfl hlen rfl ?_
          refine rt_ico rfl ki_0 ?_
          refine RT_step (pc2 := 30) rfl (fun _ _ => rfl) ?_
          refine ow_gf rfl rfl rfl hlen rfl ?_
          refine rt_ico rfl ki_0 ?_
          refine ow_ialN rfl rfl hv (by omega) hlen rfl ?_
          refine RT_step (pc2 := 36) rfl (fun _ _ => rfl) ?_
          refine ow_gf rfl rfl rfl hlen rfl ?_
          refine ow_is1 (l2 := ((180, mcl (Int32.ofNat 0) (Int32.ofNat 0) n lim a pl (km kd) nm sg (Int32.ofNat 0) qm wd td (posb vs o)) :: (181, mtl ts) :: [(182, ia nw), (187, lng nz), (200, ia li)])) rfl rfl rfl rfl rfl ((m_find7 (bs0 := 0) (cnt := P) (ov_hl hlen) (ov_at rfl (ov_lt hlen (by decide))) (by omega) (by omega)).up (by omega)) rfl ?_
          rw [show fdI (fd nz wd 0 P 0) = Int32.ofNat j0 from by rw [g0]; rfl]
          refine rt_ico rfl ki_m1 ?_
          refine biF_ne rfl (n_m1 (by omega)) ?_
          refine RT_step (pc2 := 53) rfl (fun _ _ => rfl) ?_
          refine ow_gf rfl rfl rfl hlen rfl ?_
          refine rt_bip rfl k8_40 ?_
          refine biF_ne rfl (n_ne co (by omega) (by omega)) ?_
          refine rt_ico rfl ki_4 ?_
          refine RT_step (pc2 := 69) rfl (fun _ _ => rfl) ?_
          refine ow_gf rfl rfl rfl hlen rfl ?_
          refine ba_imul rfl ?_
          rw [nmul4]
          refine RT_step (pc2 := 74) rfl (fun _ _ => rfl) ?_
          refine RT_step (pc2 := 75) rfl (fun _ _ => rfl) ?_
          refine ow_gf rfl rfl rfl hlen rfl ?_
          refine RT_step (pc2 := 79) rfl (fun _ _ => rfl) ?_
          refine rt_ico rfl ki_5 ?_
          refine ow_iasN (l2 := ((180, mcl (Int32.ofNat 0) (Int32.ofNat 0) n lim a pl (km kd) nm sg (Int32.ofNat 0) qm wd td (posb vs o)) :: (181, mtl ts) :: [(182, ia nw), (187, lng nz), (200, ia (li.set (4 * o) (Int32.ofNat 5)))])) rfl rfl (by (try simp only [List.length_set]); omega) (by omega) hlen rfl rfl ?_
          refine RT_step (pc2 := 82) rfl (fun _ _ => rfl) ?_
          refine ow_gf rfl rfl rfl hlen rfl ?_
          refine RT_step (pc2 := 86) rfl (fun _ _ => rfl) ?_
          refine rt_ico rfl ki_1 ?_
          refine ba_iadd rfl ?_
          rw [n_add]
          refine RT_step (pc2 := 89) rfl (fun _ _ => rfl) ?_
          refine bcT_eq rfl (b01_f hd0) ?_
          refine RT_step (pc2 := 97) rfl (fun _ _ => rfl) ?_
          refine ow_gf rfl rfl rfl hlen rfl ?_
          refine rt_ico rfl ki_0 ?_
          refine RT_step (pc2 := 102) rfl (fun _ _ => rfl) ?_
          refine ow_gf rfl rfl rfl hlen rfl ?_
          refine rt_ico rfl ki_0 ?_
          refine ow_ialN rfl rfl hv (by omega) hlen rfl ?_
          refine RT_step (pc2 := 108) rfl (fun _ _ => rfl) ?_
          refine ow_gf rfl rfl rfl hlen rfl ?_
          refine ow_is1 (l2 := ((180, mcl (Int32.ofNat 0) (Int32.ofNat 0) n lim a pl (km kd) nm sg (Int32.ofNat 0) qm wd td (posb vs o)) :: (181, mtl ts) :: [(182, ia nw), (187, lng nz), (200, ia (li.set (4 * o) (Int32.ofNat 5)))])) rfl rfl rfl rfl rfl ((m_find7 (bs0 := 0) (cnt := P) (ov_hl hlen) (ov_at rfl (ov_lt hlen (by decide))) (by omega) (by omega)).up (by omega)) rfl ?_
          rw [show fdI (fd nz wd 0 P 0) = Int32.ofNat j0 from by rw [g0]; rfl]
          refine ow_iasN (l2 := ((180, mcl (Int32.ofNat 0) (Int32.ofNat 0) n lim a pl (km kd) nm sg (Int32.ofNat 0) qm wd td (posb vs o)) :: (181, mtl ts) :: [(182, ia nw), (187, lng nz), (200, ia ((li.set (4 * o) (Int32.ofNat 5)).set (4 * o + 1) (Int32.ofNat j0)))])) rfl rfl (by (try simp only [List.length_set]); omega) (by omega) hlen rfl rfl ?_
          refine RT_step (pc2 := 116) rfl (fun _ _ => rfl) ?_
          refine ow_gf rfl rfl rfl hlen rfl ?_
          refine RT_step (pc2 := 120) rfl (fun _ _ => rfl) ?_
          refine rt_ico rfl ki_2 ?_
          refine ba_iadd rfl ?_
          rw [n_add]
          refine rt_ico rfl ki_0 ?_
          refine ow_iasN (l2 := ((180, mcl (Int32.ofNat 0) (Int32.ofNat 0) n lim a pl (km kd) nm sg (Int32.ofNat 0) qm wd td (posb vs o)) :: (181, mtl ts) :: [(182, ia nw), (187, lng nz), (200, ia (((li.set (4 * o) (Int32.ofNat 5)).set (4 * o + 1) (Int32.ofNat j0)).set (4 * o + 2) (Int32.ofNat 0)))])) rfl rfl (by (try simp only [List.length_set]); omega) (by omega) hlen rfl rfl ?_
          refine RT_step (pc2 := 125) rfl (fun _ _ => rfl) ?_
          refine ow_gf rfl rfl rfl hlen rfl ?_
          refine RT_step (pc2 := 129) rfl (fun _ _ => rfl) ?_
          refine rt_ico rfl ki_3 ?_
          refine ba_iadd rfl ?_
          rw [n_add]
          refine rt_ico rfl ki_0 ?_
          refine ow_iasN (l2 := ((180, mcl (Int32.ofNat 0) (Int32.ofNat 0) n lim a pl (km kd) nm sg (Int32.ofNat 0) qm wd td (posb vs o)) :: (181, mtl ts) :: [(182, ia nw), (187, lng nz), (200, ia ((((li.set (4 * o) (Int32.ofNat 5)).set (4 * o + 1) (Int32.ofNat j0)).set (4 * o + 2) (Int32.ofNat 0)).set (4 * o + 3) (Int32.ofNat 0)))])) rfl rfl (by (try simp only [List.length_set]); omega) (by omega) hlen rfl rfl ?_
          refine RT_step (pc2 := 134) rfl (fun _ _ => rfl) ?_
          refine ow_iv0 (l2 := ((180, mcl (Int32.ofNat 0) (Int32.ofNat 0) n lim a1 pl1 (km kd1) nm1 sg1 (Int32.ofNat 0) qm1 wd1 td (posb vs o)) :: (181, mtl ts) :: [(182, ia nw), (187, lng nz), (200, ia ((((li.set (4 * o) (Int32.ofNat 5)).set (4 * o + 1) (Int32.ofNat j0)).set (4 * o + 2) (Int32.ofNat 0)).set (4 * o + 3) (Int32.ofNat 0)))])) rfl rfl rfl rfl hlen rfl rfl rfl ((m1 _ (ov_hl hlen) (ov_at rfl (ov_lt hlen (by decide))) (ov_at rfl (ov_lt hlen (by decide)))).up (by omega)) rfl ?_
          refine RT_step (pc2 := 138) rfl (fun _ _ => rfl) ?_
          refine bcT_eq rfl (b01_f hd0) ?_
          refine RT_step (pc2 := 162) rfl (fun _ _ => rfl) ?_
          refine RT_step (pc2 := 163) rfl (fun _ _ => rfl) ?_
          refine ow_iv1 (l2 := ((180, mcl (Int32.ofNat 0) (Int32.ofNat 0) n lim a2 pl2 (km kd2) nm2 sg2 (Int32.ofNat 0) qm2 wd2 td (posb vs o)) :: (181, mtl ts) :: [(182, ia nw), (187, lng nz), (200, ia (((((li.set (4 * o) (Int32.ofNat 5)).set (4 * o + 1) (Int32.ofNat j0)).set (4 * o + 2) (Int32.ofNat 0)).set (4 * o + 3) (Int32.ofNat 0)).set (4 * o) (Int32.ofNat 3)))])) rfl rfl rfl rfl hlen rfl rfl rfl (hv2.up (by omega)) rfl ?_
          refine bcF_eq rfl (by decide) ?_
          exact hq _ rfl
      · subst cv
        have hk11 := w_k1 t1 (by decide)
        obtain ⟨T2, M2, c2, x2, m2⟩ := s_adv hB hM hb hn hl (po := (posb vs o)) (pl := pl1) (tk := tk) (td := td) (fp := fp1) (plM := qm1) t1 (by omega) (by omega)
        obtain ⟨a2, kd2, pl2, w2, le2, nu2, fp2, nm2, sg2, qm2, wd2, rfl, rfl, t2⟩ := c2
        obtain ⟨v1, v2, v3, v4, bx2, hadd⟩ := bx_add bx ho (Int32.ofNat 40) (Int32.ofNat j0) (Int32.ofNat 0) (Int32.ofNat 0)
        refine Or.inr ⟨ho, _, tk, td, tcl n lim a2 kd2 pl2 w2 le2 nu2 tk (Int32.ofNat 0) fp2, mcl (Int32.ofNat 0) (Int32.ofNat 0) n lim a2 pl2 (km kd2) nm2 sg2 (Int32.ofNat 0) qm2 wd2 td (posb vs o), v1, v2, v3, v4, (((((li.set (4 * o) (Int32.ofNat 5)).set (4 * o + 1) (Int32.ofNat j0)).set (4 * o + 2) (Int32.ofNat 0)).set (4 * o + 3) (Int32.ofNat 0)).set (4 * o) (Int32.ofNat 4)), tf_td t2, bx2, by simp only [List.length_set]; exact ln, fun H hlen => ?_, fun H dd q hlen hq => ?_⟩
        · have hz : FR 2 71 [.ref 1, .ref 14, .int (Int32.ofNat P)] (ov H ((1, tcl n lim a kd pl w le nu tk (Int32.ofNat 0) fp) :: (2, bcl bs) :: [(13, dcl13 P Dn lw cl id gl bo), (14, lng pn), (15, ia ri), (16, ia lf), (17, ia wa), (18, ia fo), (19, lng dn), (20, ia ha), (21, ia pa), (22, ia bl), (105, bkc o bv), (106, ia u1), (107, ia u2), (108, ia u3), (109, ia u4)])) (some (.int (Int32.ofNat j0)), ov (ov H ((1, tcl n lim a kd pl w le nu tk (Int32.ofNat 0) fp) :: (2, bcl bs) :: [(13, dcl13 P Dn lw cl id gl bo), (14, lng pn), (15, ia ri), (16, ia lf), (17, ia wa), (18, ia fo), (19, lng dn), (20, ia ha), (21, ia pa), (22, ia bl), (105, bkc o bv), (106, ia u1), (107, ia u2), (108, ia u3), (109, ia u4)])) [(1, tcl n lim a kd pl w le nu tk (Int32.ofNat 0) fp)]) := by
            refine FR_st2 (l2 := ((1, tcl n lim a kd pl w le nu tk (Int32.ofNat 0) fp) :: (2, bcl bs) :: [(13, dcl13 P Dn lw cl id gl bo), (14, lng pn), (15, ia ri), (16, ia lf), (17, ia wa), (18, ia fo), (19, lng dn), (20, ia ha), (21, ia pa), (22, ia bl), (105, bkc o bv), (106, ia u1), (107, ia u2), (108, ia u3), (109, ia u4)])) rfl rfl rfl ?_
            refine RT_step (pc2 := 1) rfl (fun _ _ => rfl) ?_
            refine ow_gf rfl rfl rfl hlen rfl ?_
            refine RT_step (pc2 := 7) rfl (fun _ _ => rfl) ?_
            refine rt_acE rfl (by omega) (by omega) ?_
            refine RT_if c ?_
            refine RT_step (pc2 := 19) rfl (fun _ _ => rfl) ?_
            refine RT_step (pc2 := 20) rfl (fun _ _ => rfl) ?_
            refine RT_step (pc2 := 21) rfl (fun _ _ => rfl) ?_
            refine ow_gf rfl rfl rfl hlen rfl ?_
            refine ow_is1 rfl rfl rfl rfl rfl ((x_find14 (ov_hl hlen) (ov_at rfl (ov_lt hlen (by decide))) (by omega) (by omega)).up (by decide)) rfl ?_
            rw [show fdI (fd pn le 0 P 0) = Int32.ofNat j0 from by rw [e0]; rfl]
            refine RT_step (pc2 := 28) rfl (fun _ _ => rfl) ?_
            refine RT_step (pc2 := 29) rfl (fun _ _ => rfl) ?_
            refine rt_ico rfl ki_m1 ?_
            refine biF_ne rfl (n_m1 (by omega)) ?_
            refine RT_step (pc2 := 40) rfl (fun _ _ => rfl) ?_
            exact ow_irt rfl rfl rfl
          have hy : FR 3 73 [.ref 13, .ref 1] (ov H ((1, tcl n lim a kd pl w le nu tk (Int32.ofNat 0) fp) :: (2, bcl bs) :: [(13, dcl13 P Dn lw cl id gl bo), (14, lng pn), (15, ia ri), (16, ia lf), (17, ia wa), (18, ia fo), (19, lng dn), (20, ia ha), (21, ia pa), (22, ia bl), (105, bkc o bv), (106, ia u1), (107, ia u2), (108, ia u3), (109, ia u4)])) (some (.int (Int32.ofNat j0)), ov (ov H ((1, tcl n lim a kd pl w le nu tk (Int32.ofNat 0) fp) :: (2, bcl bs) :: [(13, dcl13 P Dn lw cl id gl bo), (14, lng pn), (15, ia ri), (16, ia lf), (17, ia wa), (18, ia fo), (19, lng dn), (20, ia ha), (21, ia pa), (22, ia bl), (105, bkc o bv), (106, ia u1), (107, ia u2), (108, ia u3), (109, ia u4)])) [(1, tcl n lim a kd pl w le nu tk (Int32.ofNat 0) fp)]) := by
            refine FR_st2 (l2 := ((1, tcl n lim a kd pl w le nu tk (Int32.ofNat 0) fp) :: (2, bcl bs) :: [(13, dcl13 P Dn lw cl id gl bo), (14, lng pn), (15, ia ri), (16, ia lf), (17, ia wa), (18, ia fo), (19, lng dn), (20, ia ha), (21, ia pa), (22, ia bl), (105, bkc o bv), (106, ia u1), (107, ia u2), (108, ia u3), (109, ia u4)])) rfl rfl rfl ?_
            refine RT_step (pc2 := 1) rfl (fun _ _ => rfl) ?_
            refine RT_step (pc2 := 2) rfl (fun _ _ => rfl) ?_
            refine ow_gf rfl rfl rfl hlen rfl ?_
            refine RT_step (pc2 := 6) rfl (fun _ _ => rfl) ?_
            refine ow_gf rfl rfl rfl hlen rfl ?_
            refine ow_is1 (l2 := ((1, tcl n lim a kd pl w le nu tk (Int32.ofNat 0) fp) :: (2, bcl bs) :: [(13, dcl13 P Dn lw cl id gl bo), (14, lng pn), (15, ia ri), (16, ia lf), (17, ia wa), (18, ia fo), (19, lng dn), (20, ia ha), (21, ia pa), (22, ia bl), (105, bkc o bv), (106, ia u1), (107, ia u2), (108, ia u3), (109, ia u4)])) rfl rfl rfl rfl rfl (hz.up (by decide)) rfl ?_
            exact ow_irt rfl rfl rfl
          refine FR_st2 (l2 := ((1, tcl n lim a2 kd2 pl2 w2 le2 nu2 tk (Int32.ofNat 0) fp2) :: (2, bcl bs) :: [(13, dcl13 P Dn lw cl id gl bo), (14, lng pn), (15, ia ri), (16, ia lf), (17, ia wa), (18, ia fo), (19, lng dn), (20, ia ha), (21, ia pa), (22, ia bl), (105, bkc (o + 1) bv), (106, ia v1), (107, ia v2), (108, ia v3), (109, ia v4)])) rfl rfl rfl ?_
          refine RT_step (pc2 := 1) rfl (fun _ _ => rfl) ?_
          refine RT_step (pc2 := 2) rfl (fun _ _ => rfl) ?_
          refine ow_iv1 (l2 := ((1, tcl n lim a kd pl w le nu tk (Int32.ofNat 0) fp) :: (2, bcl bs) :: [(13, dcl13 P Dn lw cl id gl bo), (14, lng pn), (15, ia ri), (16, ia lf), (17, ia wa), (18, ia fo), (19, lng dn), (20, ia ha), (21, ia pa), (22, ia bl), (105, bkc o bv), (106, ia u1), (107, ia u2), (108, ia u3), (109, ia u4)])) rfl rfl rfl rfl hlen rfl rfl rfl (hy.up (by decide)) rfl ?_
          refine RT_step (pc2 := 6) rfl (fun _ _ => rfl) ?_
          refine RT_step (pc2 := 7) rfl (fun _ _ => rfl) ?_
          refine rt_ico rfl ki_m1 ?_
          refine biF_ne rfl (n_m1 (by omega)) ?_
          refine RT_step (pc2 := 14) rfl (fun _ _ => rfl) ?_
          refine ow_gf rfl rfl rfl hlen rfl ?_
          refine rt_bip rfl k8_40 ?_
          refine biT_lt rfl (n_lt (by omega) (by omega)) ?_
          refine RT_step (pc2 := 29) rfl (fun _ _ => rfl) ?_
          refine ow_iv0 (l2 := ((1, tcl n lim a1 kd1 pl1 15 le1 nu1 tk (Int32.ofNat 0) fp1) :: (2, bcl bs) :: [(13, dcl13 P Dn lw cl id gl bo), (14, lng pn), (15, ia ri), (16, ia lf), (17, ia wa), (18, ia fo), (19, lng dn), (20, ia ha), (21, ia pa), (22, ia bl), (105, bkc o bv), (106, ia u1), (107, ia u2), (108, ia u3), (109, ia u4)])) rfl rfl rfl rfl hlen rfl rfl rfl ((x1 _ (ov_hl hlen) (ov_at rfl (ov_lt hlen (by decide))) (ov_at rfl (ov_lt hlen (by decide)))).up (by decide)) rfl ?_
          refine RT_step (pc2 := 33) rfl (fun _ _ => rfl) ?_
          refine ow_gf rfl rfl rfl hlen rfl ?_
          refine RT_step (pc2 := 38) rfl (fun _ _ => rfl) ?_
          refine RT_step (pc2 := 41) rfl (fun _ _ => rfl) ?_
          refine RT_step (pc2 := 43) rfl (fun _ _ => rfl) ?_
          refine rt_ord rfl (by decide) rfl ?_
          refine rt_isw rfl (v := 12) (by decide +kernel) ?_
          refine RT_step (pc2 := 120) rfl (fun _ _ => rfl) ?_
          refine RT_step (pc2 := 121) rfl (fun _ _ => rfl) ?_
          refine rt_bip rfl k8_40 ?_
          refine RT_step (pc2 := 124) rfl (fun _ _ => rfl) ?_
          refine rt_ico rfl ki_0 ?_
          refine rt_ico rfl ki_0 ?_
          refine ow_iv0 (l2 := ((1, tcl n lim a1 kd1 pl1 15 le1 nu1 tk (Int32.ofNat 0) fp1) :: (2, bcl bs) :: [(13, dcl13 P Dn lw cl id gl bo), (14, lng pn), (15, ia ri), (16, ia lf), (17, ia wa), (18, ia fo), (19, lng dn), (20, ia ha), (21, ia pa), (22, ia bl), (105, bkc (o + 1) bv), (106, ia v1), (107, ia v2), (108, ia v3), (109, ia v4)])) rfl rfl rfl rfl hlen rfl rfl rfl ((hadd bv _ (ov_hl hlen) (ov_at rfl (ov_lt hlen (by decide))) (ov_at rfl (ov_lt hlen (by decide))) (ov_at rfl (ov_lt hlen (by decide))) (ov_at rfl (ov_lt hlen (by decide))) (ov_at rfl (ov_lt hlen (by decide)))).up (by decide)) rfl ?_
          refine RT_step (pc2 := 138) rfl (fun _ _ => rfl) ?_
          refine RT_step (pc2 := 139) rfl (fun _ _ => rfl) ?_
          refine ow_iv0 (l2 := ((1, tcl n lim a2 kd2 pl2 w2 le2 nu2 tk (Int32.ofNat 0) fp2) :: (2, bcl bs) :: [(13, dcl13 P Dn lw cl id gl bo), (14, lng pn), (15, ia ri), (16, ia lf), (17, ia wa), (18, ia fo), (19, lng dn), (20, ia ha), (21, ia pa), (22, ia bl), (105, bkc (o + 1) bv), (106, ia v1), (107, ia v2), (108, ia v3), (109, ia v4)])) rfl rfl rfl rfl hlen rfl rfl rfl ((x2 _ (ov_hl hlen) (ov_at rfl (ov_lt hlen (by decide))) (ov_at rfl (ov_lt hlen (by decide)))).up (by decide)) rfl ?_
          refine rt_ico rfl ki_1 ?_
          exact ow_irt rfl rfl rfl
        · have hv2 : FR 8 250 [.ref 180, .int (Int32.ofNat (4 * o))] (ov H ((180, mcl (Int32.ofNat 0) (Int32.ofNat 0) n lim a1 pl1 (km kd1) nm1 sg1 (Int32.ofNat 0) qm1 wd1 td (posb vs o)) :: (181, mtl ts) :: [(182, ia nw), (187, lng nz), (200, ia ((((li.set (4 * o) (Int32.ofNat 5)).set (4 * o + 1) (Int32.ofNat j0)).set (4 * o + 2) (Int32.ofNat 0)).set (4 * o + 3) (Int32.ofNat 0)))])) (some (.int (Int32.ofNat 1)), ov (ov H ((180, mcl (Int32.ofNat 0) (Int32.ofNat 0) n lim a1 pl1 (km kd1) nm1 sg1 (Int32.ofNat 0) qm1 wd1 td (posb vs o)) :: (181, mtl ts) :: [(182, ia nw), (187, lng nz), (200, ia ((((li.set (4 * o) (Int32.ofNat 5)).set (4 * o + 1) (Int32.ofNat j0)).set (4 * o + 2) (Int32.ofNat 0)).set (4 * o + 3) (Int32.ofNat 0)))])) [(180, mcl (Int32.ofNat 0) (Int32.ofNat 0) n lim a2 pl2 (km kd2) nm2 sg2 (Int32.ofNat 0) qm2 wd2 td (posb vs o)), (200, ia (((((li.set (4 * o) (Int32.ofNat 5)).set (4 * o + 1) (Int32.ofNat j0)).set (4 * o + 2) (Int32.ofNat 0)).set (4 * o + 3) (Int32.ofNat 0)).set (4 * o) (Int32.ofNat 4)))]) := by
            refine FR_st2 (l2 := ((180, mcl (Int32.ofNat 0) (Int32.ofNat 0) n lim a2 pl2 (km kd2) nm2 sg2 (Int32.ofNat 0) qm2 wd2 td (posb vs o)) :: (181, mtl ts) :: [(182, ia nw), (187, lng nz), (200, ia (((((li.set (4 * o) (Int32.ofNat 5)).set (4 * o + 1) (Int32.ofNat j0)).set (4 * o + 2) (Int32.ofNat 0)).set (4 * o + 3) (Int32.ofNat 0)).set (4 * o) (Int32.ofNat 4)))])) rfl rfl rfl ?_
            refine rt_bip rfl k8_8 ?_
            refine RT_step (pc2 := 3) rfl (fun _ _ => rfl) ?_
            refine m_vl (z := Int32.ofNat (4 * o)) hlen (km_is kd1 t1.2.2.2.1).2.2.2.2.2 5 8 _ rfl rfl rfl rfl (fun L2 l0 l1 lw => ?_)
            rw [wj_le t1 5 8 (by decide), jv] at lw
            refine rt_ild rfl lw ?_
            refine rt_bip rfl k8_12 ?_
            refine biT_le rfl (n_le (by decide) (by decide)) ?_
            refine rt_ald rfl l0 ?_
            refine ow_gf rfl rfl rfl hlen rfl ?_
            refine rt_ild rfl l1 ?_
            refine rt_ild rfl lw ?_
            refine rt_bip rfl k8_8 ?_
            refine ba_isub rfl ?_
            rw [show Int32.ofNat 12 - Int32.ofNat 8 = Int32.ofNat 4 from rfl]
            refine ow_iasN (l2 := ((180, mcl (Int32.ofNat 0) (Int32.ofNat 0) n lim a1 pl1 (km kd1) nm1 sg1 (Int32.ofNat 0) qm1 wd1 td (posb vs o)) :: (181, mtl ts) :: [(182, ia nw), (187, lng nz), (200, ia (((((li.set (4 * o) (Int32.ofNat 5)).set (4 * o + 1) (Int32.ofNat j0)).set (4 * o + 2) (Int32.ofNat 0)).set (4 * o + 3) (Int32.ofNat 0)).set (4 * o) (Int32.ofNat 4)))])) rfl rfl (by (try simp only [List.length_set]); omega) (by omega) hlen rfl rfl ?_
            refine rt_ald rfl l0 ?_
            refine ow_iv0 (l2 := ((180, mcl (Int32.ofNat 0) (Int32.ofNat 0) n lim a2 pl2 (km kd2) nm2 sg2 (Int32.ofNat 0) qm2 wd2 td (posb vs o)) :: (181, mtl ts) :: [(182, ia nw), (187, lng nz), (200, ia (((((li.set (4 * o) (Int32.ofNat 5)).set (4 * o + 1) (Int32.ofNat j0)).set (4 * o + 2) (Int32.ofNat 0)).set (4 * o + 3) (Int32.ofNat 0)).set (4 * o) (Int32.ofNat 4)))])) rfl rfl rfl rfl hlen rfl rfl rfl ((m2 _ (ov_hl hlen) (ov_at rfl (ov_lt hlen (by decide))) (ov_at rfl (ov_lt hlen (by decide)))).up (by omega)) rfl ?_
            refine rt_ald rfl l0 ?_
            refine ow_gf rfl rfl rfl hlen rfl ?_
            refine rt_ild rfl l1 ?_
            refine ow_ialN rfl rfl (List.getElem?_set_self (by simp only [List.length_set]; omega)) (by omega) hlen rfl ?_
            refine RT_step (pc2 := 141) rfl (fun _ _ => rfl) ?_
            refine rt_ico rfl ki_1 ?_
            exact ow_irt rfl rfl rfl
          refine RT_step (pc2 := 1) rfl (fun _ _ => rfl) ?_
          refine rt_bip rfl k8_16 ?_
          refine ow_iv1 (l2 := ((180, mcl (Int32.ofNat 0) (Int32.ofNat 0) n lim a pl (km kd) nm sg (Int32.ofNat 0) qm wd td (posb vs o)) :: (181, mtl ts) :: [(182, ia nw), (187, lng nz), (200, ia li)])) rfl rfl rfl rfl hlen rfl rfl rfl ((m_isWord (k := 16) (ov_hl hlen) (ov_at rfl (ov_lt hlen (by decide))) (km_is kd t.2.2.2.1).2.2.2.2.2 (by decide)).up (by omega)) rfl ?_
          refine RT_step (pc2 := 7) rfl (fun _ _ => rfl) ?_
          refine RT_step (pc2 := 8) rfl (fun _ _ => rfl) ?_
          refine bcT_ne rfl (b01_f hd0) ?_
          refine RT_step (pc2 := 12) rfl (fun _ _ => rfl) ?_
          refine ow_iv1 (l2 := ((180, mcl (Int32.ofNat 0) (Int32.ofNat 0) n lim a pl (km kd) nm sg (Int32.ofNat 0) qm wd td (posb vs o)) :: (181, mtl ts) :: [(182, ia nw), (187, lng nz), (200, ia li)])) rfl rfl rfl rfl hlen rfl rfl rfl ((m_isName (ov_hl hlen) (ov_at rfl (ov_lt hlen (by decide))) (km_is kd t.2.2.2.1).2.2.2.2.2).up (by omega)) rfl ?_
          refine bcF_ne rfl (b01_t hnm) ?_
          refine RT_step (pc2 := 25) rfl (fun _ _ => rfl) ?_
          refine ow_gf rfl rfl rfl hlen rfl ?_
          refine rt_ico rfl ki_0 ?_
          refine RT_step (pc2 := 30) rfl (fun _ _ => rfl) ?_
          refine ow_gf rfl rfl rfl hlen rfl ?_
          refine rt_ico rfl ki_0 ?_
          refine ow_ialN rfl rfl hv (by omega) hlen rfl ?_
          refine RT_step (pc2 := 36) rfl (fun _ _ => rfl) ?_
          refine ow_gf rfl rfl rfl hlen rfl ?_
          refine ow_is1 (l2 := ((180, mcl (Int32.ofNat 0) (Int32.ofNat 0) n lim a pl (km kd) nm sg (Int32.ofNat 0) qm wd td (posb vs o)) :: (181, mtl ts) :: [(182, ia nw), (187, lng nz), (200, ia li)])) rfl rfl rfl rfl rfl ((m_find7 (bs0 := 0) (cnt := P) (ov_hl hlen) (ov_at rfl (ov_lt hlen (by decide))) (by omega) (by omega)).up (by omega)) rfl ?_
          rw [show fdI (fd nz wd 0 P 0) = Int32.ofNat j0 from by rw [g0]; rfl]
          refine rt_ico rfl ki_m1 ?_
          refine biF_ne rfl (n_m1 (by omega)) ?_
          refine RT_step (pc2 := 53) rfl (fun _ _ => rfl) ?_
          refine ow_gf rfl rfl rfl hlen rfl ?_
          refine rt_bip rfl k8_40 ?_
          refine biF_ne rfl (n_ne co (by omega) (by omega)) ?_
          refine rt_ico rfl ki_4 ?_
          refine RT_step (pc2 := 69) rfl (fun _ _ => rfl) ?_
          refine ow_gf rfl rfl rfl hlen rfl ?_
          refine ba_imul rfl ?_
          rw [nmul4]
          refine RT_step (pc2 := 74) rfl (fun _ _ => rfl) ?_
          refine RT_step (pc2 := 75) rfl (fun _ _ => rfl) ?_
          refine ow_gf rfl rfl rfl hlen rfl ?_
          refine RT_step (pc2 := 79) rfl (fun _ _ => rfl) ?_
          refine rt_ico rfl ki_5 ?_
          refine ow_iasN (l2 := ((180, mcl (Int32.ofNat 0) (Int32.ofNat 0) n lim a pl (km kd) nm sg (Int32.ofNat 0) qm wd td (posb vs o)) :: (181, mtl ts) :: [(182, ia nw), (187, lng nz), (200, ia (li.set (4 * o) (Int32.ofNat 5)))])) rfl rfl (by (try simp only [List.length_set]); omega) (by omega) hlen rfl rfl ?_
          refine RT_step (pc2 := 82) rfl (fun _ _ => rfl) ?_
          refine ow_gf rfl rfl rfl hlen rfl ?_
          refine RT_step (pc2 := 86) rfl (fun _ _ => rfl) ?_
          refine rt_ico rfl ki_1 ?_
          refine ba_iadd rfl ?_
          rw [n_add]
          refine RT_step (pc2 := 89) rfl (fun _ _ => rfl) ?_
          refine bcT_eq rfl (b01_f hd0) ?_
          refine RT_step (pc2 := 97) rfl (fun _ _ => rfl) ?_
          refine ow_gf rfl rfl rfl hlen rfl ?_
          refine rt_ico rfl ki_0 ?_
          refine RT_step (pc2 := 102) rfl (fun _ _ => rfl) ?_
          refine ow_gf rfl rfl rfl hlen rfl ?_
          refine rt_ico rfl ki_0 ?_
          refine ow_ialN rfl rfl hv (by omega) hlen rfl ?_
          refine RT_step (pc2 := 108) rfl (fun _ _ => rfl) ?_
          refine ow_gf rfl rfl rfl hlen rfl ?_
          refine ow_is1 (l2 := ((180, mcl (Int32.ofNat 0) (Int32.ofNat 0) n lim a pl (km kd) nm sg (Int32.ofNat 0) qm wd td (posb vs o)) :: (181, mtl ts) :: [(182, ia nw), (187, lng nz), (200, ia (li.set (4 * o) (Int32.ofNat 5)))])) rfl rfl rfl rfl rfl ((m_find7 (bs0 := 0) (cnt := P) (ov_hl hlen) (ov_at rfl (ov_lt hlen (by decide))) (by omega) (by omega)).up (by omega)) rfl ?_
          rw [show fdI (fd nz wd 0 P 0) = Int32.ofNat j0 from by rw [g0]; rfl]
          refine ow_iasN (l2 := ((180, mcl (Int32.ofNat 0) (Int32.ofNat 0) n lim a pl (km kd) nm sg (Int32.ofNat 0) qm wd td (posb vs o)) :: (181, mtl ts) :: [(182, ia nw), (187, lng nz), (200, ia ((li.set (4 * o) (Int32.ofNat 5)).set (4 * o + 1) (Int32.ofNat j0)))])) rfl rfl (by (try simp only [List.length_set]); omega) (by omega) hlen rfl rfl ?_
          refine RT_step (pc2 := 116) rfl (fun _ _ => rfl) ?_
          refine ow_gf rfl rfl rfl hlen rfl ?_
          refine RT_step (pc2 := 120) rfl (fun _ _ => rfl) ?_
          refine rt_ico rfl ki_2 ?_
          refine ba_iadd rfl ?_
          rw [n_add]
          refine rt_ico rfl ki_0 ?_
          refine ow_iasN (l2 := ((180, mcl (Int32.ofNat 0) (Int32.ofNat 0) n lim a pl (km kd) nm sg (Int32.ofNat 0) qm wd td (posb vs o)) :: (181, mtl ts) :: [(182, ia nw), (187, lng nz), (200, ia (((li.set (4 * o) (Int32.ofNat 5)).set (4 * o + 1) (Int32.ofNat j0)).set (4 * o + 2) (Int32.ofNat 0)))])) rfl rfl (by (try simp only [List.length_set]); omega) (by omega) hlen rfl rfl ?_
          refine RT_step (pc2 := 125) rfl (fun _ _ => rfl) ?_
          refine ow_gf rfl rfl rfl hlen rfl ?_
          refine RT_step (pc2 := 129) rfl (fun _ _ => rfl) ?_
          refine rt_ico rfl ki_3 ?_
          refine ba_iadd rfl ?_
          rw [n_add]
          refine rt_ico rfl ki_0 ?_
          refine ow_iasN (l2 := ((180, mcl (Int32.ofNat 0) (Int32.ofNat 0) n lim a pl (km kd) nm sg (Int32.ofNat 0) qm wd td (posb vs o)) :: (181, mtl ts) :: [(182, ia nw), (187, lng nz), (200, ia ((((li.set (4 * o) (Int32.ofNat 5)).set (4 * o + 1) (Int32.ofNat j0)).set (4 * o + 2) (Int32.ofNat 0)).set (4 * o + 3) (Int32.ofNat 0)))])) rfl rfl (by (try simp only [List.length_set]); omega) (by omega) hlen rfl rfl ?_
          refine RT_step (pc2 := 134) rfl (fun _ _ => rfl) ?_
          refine ow_iv0 (l2 := ((180, mcl (Int32.ofNat 0) (Int32.ofNat 0) n lim a1 pl1 (km kd1) nm1 sg1 (Int32.ofNat 0) qm1 wd1 td (posb vs o)) :: (181, mtl ts) :: [(182, ia nw), (187, lng nz), (200, ia ((((li.set (4 * o) (Int32.ofNat 5)).set (4 * o + 1) (Int32.ofNat j0)).set (4 * o + 2) (Int32.ofNat 0)).set (4 * o + 3) (Int32.ofNat 0)))])) rfl rfl rfl rfl hlen rfl rfl rfl ((m1 _ (ov_hl hlen) (ov_at rfl (ov_lt hlen (by decide))) (ov_at rfl (ov_lt hlen (by decide)))).up (by omega)) rfl ?_
          refine RT_step (pc2 := 138) rfl (fun _ _ => rfl) ?_
          refine bcT_eq rfl (b01_f hd0) ?_
          refine RT_step (pc2 := 162) rfl (fun _ _ => rfl) ?_
          refine RT_step (pc2 := 163) rfl (fun _ _ => rfl) ?_
          refine ow_iv1 (l2 := ((180, mcl (Int32.ofNat 0) (Int32.ofNat 0) n lim a2 pl2 (km kd2) nm2 sg2 (Int32.ofNat 0) qm2 wd2 td (posb vs o)) :: (181, mtl ts) :: [(182, ia nw), (187, lng nz), (200, ia (((((li.set (4 * o) (Int32.ofNat 5)).set (4 * o + 1) (Int32.ofNat j0)).set (4 * o + 2) (Int32.ofNat 0)).set (4 * o + 3) (Int32.ofNat 0)).set (4 * o) (Int32.ofNat 4)))])) rfl rfl rfl rfl hlen rfl rfl rfl (hv2.up (by omega)) rfl ?_
          refine bcF_eq rfl (by decide) ?_
          exact hq _ rfl
    | none =>
      have g0 := q0.symm.trans e0
      obtain ⟨T, M, f, hx, hm⟩ := s_ref (bs := bs) (ts := ts) (lim := lim) (po := (posb vs o)) (pl := pl) (tk := tk) (td := td) (fp := fp) (plM := qm) t (kk := 3) (by decide) (by decide) (Or.inl (by omega))
      refine Or.inl ⟨T, M, li, f, ln, fun H hlen => ?_, fun H hlen => ?_⟩
      · have hz : FR 2 71 [.ref 1, .ref 14, .int (Int32.ofNat P)] (ov H ((1, tcl n lim a kd pl w le nu tk (Int32.ofNat 0) fp) :: (2, bcl bs) :: [(13, dcl13 P Dn lw cl id gl bo), (14, lng pn), (15, ia ri), (16, ia lf), (17, ia wa), (18, ia fo), (19, lng dn), (20, ia ha), (21, ia pa), (22, ia bl), (105, bkc o bv), (106, ia u1), (107, ia u2), (108, ia u3), (109, ia u4)])) (some (.int (-1 : Int32)), ov (ov H ((1, tcl n lim a kd pl w le nu tk (Int32.ofNat 0) fp) :: (2, bcl bs) :: [(13, dcl13 P Dn lw cl id gl bo), (14, lng pn), (15, ia ri), (16, ia lf), (17, ia wa), (18, ia fo), (19, lng dn), (20, ia ha), (21, ia pa), (22, ia bl), (105, bkc o bv), (106, ia u1), (107, ia u2), (108, ia u3), (109, ia u4)])) [(1, T)]) := by
          refine FR_st2 (l2 := ((1, T) :: (2, bcl bs) :: [(13, dcl13 P Dn lw cl id gl bo), (14, lng pn), (15, ia ri), (16, ia lf), (17, ia wa), (18, ia fo), (19, lng dn), (20, ia ha), (21, ia pa), (22, ia bl), (105, bkc o bv), (106, ia u1), (107, ia u2), (108, ia u3), (109, ia u4)])) rfl rfl rfl ?_
          refine RT_step (pc2 := 1) rfl (fun _ _ => rfl) ?_
          refine ow_gf rfl rfl rfl hlen rfl ?_
          refine RT_step (pc2 := 7) rfl (fun _ _ => rfl) ?_
          refine rt_acE rfl (by omega) (by omega) ?_
          refine RT_if c ?_
          refine RT_step (pc2 := 19) rfl (fun _ _ => rfl) ?_
          refine RT_step (pc2 := 20) rfl (fun _ _ => rfl) ?_
          refine RT_step (pc2 := 21) rfl (fun _ _ => rfl) ?_
          refine ow_gf rfl rfl rfl hlen rfl ?_
          refine ow_is1 rfl rfl rfl rfl rfl ((x_find14 (ov_hl hlen) (ov_at rfl (ov_lt hlen (by decide))) (by omega) (by omega)).up (by decide)) rfl ?_
          rw [show fdI (fd pn le 0 P 0) = (-1 : Int32) from by rw [e0]; rfl]
          refine RT_step (pc2 := 28) rfl (fun _ _ => rfl) ?_
          refine RT_step (pc2 := 29) rfl (fun _ _ => rfl) ?_
          refine rt_ico rfl ki_m1 ?_
          refine biT_ne rfl rfl ?_
          refine RT_step (pc2 := 34) rfl (fun _ _ => rfl) ?_
          refine rt_ico rfl ki_3 ?_
          refine ow_iv1 rfl rfl rfl rfl hlen rfl rfl rfl ((hx _ (ov_hl hlen) (ov_at rfl (ov_lt hlen (by decide))) (ov_at rfl (ov_lt hlen (by decide)))).up (by decide)) rfl ?_
          refine RT_step (pc2 := 39) rfl (fun _ _ => rfl) ?_
          refine RT_step (pc2 := 40) rfl (fun _ _ => rfl) ?_
          exact ow_irt rfl rfl rfl
        have hy : FR 3 73 [.ref 13, .ref 1] (ov H ((1, tcl n lim a kd pl w le nu tk (Int32.ofNat 0) fp) :: (2, bcl bs) :: [(13, dcl13 P Dn lw cl id gl bo), (14, lng pn), (15, ia ri), (16, ia lf), (17, ia wa), (18, ia fo), (19, lng dn), (20, ia ha), (21, ia pa), (22, ia bl), (105, bkc o bv), (106, ia u1), (107, ia u2), (108, ia u3), (109, ia u4)])) (some (.int (-1 : Int32)), ov (ov H ((1, tcl n lim a kd pl w le nu tk (Int32.ofNat 0) fp) :: (2, bcl bs) :: [(13, dcl13 P Dn lw cl id gl bo), (14, lng pn), (15, ia ri), (16, ia lf), (17, ia wa), (18, ia fo), (19, lng dn), (20, ia ha), (21, ia pa), (22, ia bl), (105, bkc o bv), (106, ia u1), (107, ia u2), (108, ia u3), (109, ia u4)])) [(1, T)]) := by
          refine FR_st2 (l2 := ((1, T) :: (2, bcl bs) :: [(13, dcl13 P Dn lw cl id gl bo), (14, lng pn), (15, ia ri), (16, ia lf), (17, ia wa), (18, ia fo), (19, lng dn), (20, ia ha), (21, ia pa), (22, ia bl), (105, bkc o bv), (106, ia u1), (107, ia u2), (108, ia u3), (109, ia u4)])) rfl rfl rfl ?_
          refine RT_step (pc2 := 1) rfl (fun _ _ => rfl) ?_
          refine RT_step (pc2 := 2) rfl (fun _ _ => rfl) ?_
          refine ow_gf rfl rfl rfl hlen rfl ?_
          refine RT_step (pc2 := 6) rfl (fun _ _ => rfl) ?_
          refine ow_gf rfl rfl rfl hlen rfl ?_
          refine ow_is1 (l2 := ((1, T) :: (2, bcl bs) :: [(13, dcl13 P Dn lw cl id gl bo), (14, lng pn), (15, ia ri), (16, ia lf), (17, ia wa), (18, ia fo), (19, lng dn), (20, ia ha), (21, ia pa), (22, ia bl), (105, bkc o bv), (106, ia u1), (107, ia u2), (108, ia u3), (109, ia u4)])) rfl rfl rfl rfl rfl (hz.up (by decide)) rfl ?_
          exact ow_irt rfl rfl rfl
        refine FR_st2 (l2 := ((1, T) :: (2, bcl bs) :: [(13, dcl13 P Dn lw cl id gl bo), (14, lng pn), (15, ia ri), (16, ia lf), (17, ia wa), (18, ia fo), (19, lng dn), (20, ia ha), (21, ia pa), (22, ia bl), (105, bkc o bv), (106, ia u1), (107, ia u2), (108, ia u3), (109, ia u4)])) rfl rfl rfl ?_
        refine RT_step (pc2 := 1) rfl (fun _ _ => rfl) ?_
        refine RT_step (pc2 := 2) rfl (fun _ _ => rfl) ?_
        refine ow_iv1 (l2 := ((1, T) :: (2, bcl bs) :: [(13, dcl13 P Dn lw cl id gl bo), (14, lng pn), (15, ia ri), (16, ia lf), (17, ia wa), (18, ia fo), (19, lng dn), (20, ia ha), (21, ia pa), (22, ia bl), (105, bkc o bv), (106, ia u1), (107, ia u2), (108, ia u3), (109, ia u4)])) rfl rfl rfl rfl hlen rfl rfl rfl (hy.up (by decide)) rfl ?_
        refine RT_step (pc2 := 6) rfl (fun _ _ => rfl) ?_
        refine RT_step (pc2 := 7) rfl (fun _ _ => rfl) ?_
        refine rt_ico rfl ki_m1 ?_
        refine biT_ne rfl rfl ?_
        refine rt_ico rfl ki_0 ?_
        exact ow_irt rfl rfl rfl
      · refine FR_st2 (l2 := ((180, M) :: (181, mtl ts) :: [(182, ia nw), (187, lng nz), (200, ia li)])) rfl rfl rfl ?_
        refine RT_step (pc2 := 1) rfl (fun _ _ => rfl) ?_
        refine rt_bip rfl k8_16 ?_
        refine ow_iv1 (l2 := ((180, mcl (Int32.ofNat 0) (Int32.ofNat 0) n lim a pl (km kd) nm sg (Int32.ofNat 0) qm wd td (posb vs o)) :: (181, mtl ts) :: [(182, ia nw), (187, lng nz), (200, ia li)])) rfl rfl rfl rfl hlen rfl rfl rfl ((m_isWord (k := 16) (ov_hl hlen) (ov_at rfl (ov_lt hlen (by decide))) (km_is kd t.2.2.2.1).2.2.2.2.2 (by decide)).up (by omega)) rfl ?_
        refine RT_step (pc2 := 7) rfl (fun _ _ => rfl) ?_
        refine RT_step (pc2 := 8) rfl (fun _ _ => rfl) ?_
        refine bcT_ne rfl (b01_f hd0) ?_
        refine RT_step (pc2 := 12) rfl (fun _ _ => rfl) ?_
        refine ow_iv1 (l2 := ((180, mcl (Int32.ofNat 0) (Int32.ofNat 0) n lim a pl (km kd) nm sg (Int32.ofNat 0) qm wd td (posb vs o)) :: (181, mtl ts) :: [(182, ia nw), (187, lng nz), (200, ia li)])) rfl rfl rfl rfl hlen rfl rfl rfl ((m_isName (ov_hl hlen) (ov_at rfl (ov_lt hlen (by decide))) (km_is kd t.2.2.2.1).2.2.2.2.2).up (by omega)) rfl ?_
        refine bcF_ne rfl (b01_t hnm) ?_
        refine RT_step (pc2 := 25) rfl (fun _ _ => rfl) ?_
        refine ow_gf rfl rfl rfl hlen rfl ?_
        refine rt_ico rfl ki_0 ?_
        refine RT_step (pc2 := 30) rfl (fun _ _ => rfl) ?_
        refine ow_gf rfl rfl rfl hlen rfl ?_
        refine rt_ico rfl ki_0 ?_
        refine ow_ialN rfl rfl hv (by omega) hlen rfl ?_
        refine RT_step (pc2 := 36) rfl (fun _ _ => rfl) ?_
        refine ow_gf rfl rfl rfl hlen rfl ?_
        refine ow_is1 (l2 := ((180, mcl (Int32.ofNat 0) (Int32.ofNat 0) n lim a pl (km kd) nm sg (Int32.ofNat 0) qm wd td (posb vs o)) :: (181, mtl ts) :: [(182, ia nw), (187, lng nz), (200, ia li)])) rfl rfl rfl rfl rfl ((m_find7 (bs0 := 0) (cnt := P) (ov_hl hlen) (ov_at rfl (ov_lt hlen (by decide))) (by omega) (by omega)).up (by omega)) rfl ?_
        rw [show fdI (fd nz wd 0 P 0) = (-1 : Int32) from by rw [g0]; rfl]
        refine rt_ico rfl ki_m1 ?_
        refine biT_ne rfl rfl ?_
        refine RT_step (pc2 := 47) rfl (fun _ _ => rfl) ?_
        refine rt_ico rfl ki_3 ?_
        refine ow_iv1 (l2 := ((180, M) :: (181, mtl ts) :: [(182, ia nw), (187, lng nz), (200, ia li)])) rfl rfl rfl rfl hlen rfl rfl rfl ((hm _ (ov_hl hlen) (ov_at rfl (ov_lt hlen (by decide))) (ov_at rfl (ov_lt hlen (by decide)))).up (by omega)) rfl ?_
        exact ow_irt rfl rfl rfl
  · have hnm : (Nat.beq (km kd) 2 && nmB wd 30 0) = false := by rw [w_nm t]; exact decide_eq_false c
    obtain ⟨T, M, f, hx, hm⟩ := s_ref (bs := bs) (ts := ts) (lim := lim) (po := (posb vs o)) (pl := pl) (tk := tk) (td := td) (fp := fp) (plM := qm) t (kk := 1) (by decide) (by decide) (Or.inr rfl)
    refine Or.inl ⟨T, M, li, f, ln, fun H hlen => ?_, fun H hlen => ?_⟩
    · have hz : FR 2 71 [.ref 1, .ref 14, .int (Int32.ofNat P)] (ov H ((1, tcl n lim a kd pl w le nu tk (Int32.ofNat 0) fp) :: (2, bcl bs) :: [(13, dcl13 P Dn lw cl id gl bo), (14, lng pn), (15, ia ri), (16, ia lf), (17, ia wa), (18, ia fo), (19, lng dn), (20, ia ha), (21, ia pa), (22, ia bl), (105, bkc o bv), (106, ia u1), (107, ia u2), (108, ia u3), (109, ia u4)])) (some (.int (-1 : Int32)), ov (ov H ((1, tcl n lim a kd pl w le nu tk (Int32.ofNat 0) fp) :: (2, bcl bs) :: [(13, dcl13 P Dn lw cl id gl bo), (14, lng pn), (15, ia ri), (16, ia lf), (17, ia wa), (18, ia fo), (19, lng dn), (20, ia ha), (21, ia pa), (22, ia bl), (105, bkc o bv), (106, ia u1), (107, ia u2), (108, ia u3), (109, ia u4)])) [(1, T)]) := by
        refine FR_st2 (l2 := ((1, T) :: (2, bcl bs) :: [(13, dcl13 P Dn lw cl id gl bo), (14, lng pn), (15, ia ri), (16, ia lf), (17, ia wa), (18, ia fo), (19, lng dn), (20, ia ha), (21, ia pa), (22, ia bl), (105, bkc o bv), (106, ia u1), (107, ia u2), (108, ia u3), (109, ia u4)])) rfl rfl rfl ?_
        refine RT_step (pc2 := 1) rfl (fun _ _ => rfl) ?_
        refine ow_gf rfl rfl rfl hlen rfl ?_
        refine RT_step (pc2 := 7) rfl (fun _ _ => rfl) ?_
        refine rt_acE rfl (by omega) (by omega) ?_
        refine RT_el c ?_
        refine RT_step (pc2 := 11) rfl (fun _ _ => rfl) ?_
        refine rt_ico rfl ki_1 ?_
        refine ow_iv1 rfl rfl rfl rfl hlen rfl rfl rfl ((hx _ (ov_hl hlen) (ov_at rfl (ov_lt hlen (by decide))) (ov_at rfl (ov_lt hlen (by decide)))).up (by decide)) rfl ?_
        refine RT_step (pc2 := 16) rfl (fun _ _ => rfl) ?_
        refine rt_ico rfl ki_m1 ?_
        exact ow_irt rfl rfl rfl
      have hy : FR 3 73 [.ref 13, .ref 1] (ov H ((1, tcl n lim a kd pl w le nu tk (Int32.ofNat 0) fp) :: (2, bcl bs) :: [(13, dcl13 P Dn lw cl id gl bo), (14, lng pn), (15, ia ri), (16, ia lf), (17, ia wa), (18, ia fo), (19, lng dn), (20, ia ha), (21, ia pa), (22, ia bl), (105, bkc o bv), (106, ia u1), (107, ia u2), (108, ia u3), (109, ia u4)])) (some (.int (-1 : Int32)), ov (ov H ((1, tcl n lim a kd pl w le nu tk (Int32.ofNat 0) fp) :: (2, bcl bs) :: [(13, dcl13 P Dn lw cl id gl bo), (14, lng pn), (15, ia ri), (16, ia lf), (17, ia wa), (18, ia fo), (19, lng dn), (20, ia ha), (21, ia pa), (22, ia bl), (105, bkc o bv), (106, ia u1), (107, ia u2), (108, ia u3), (109, ia u4)])) [(1, T)]) := by
        refine FR_st2 (l2 := ((1, T) :: (2, bcl bs) :: [(13, dcl13 P Dn lw cl id gl bo), (14, lng pn), (15, ia ri), (16, ia lf), (17, ia wa), (18, ia fo), (19, lng dn), (20, ia ha), (21, ia pa), (22, ia bl), (105, bkc o bv), (106, ia u1), (107, ia u2), (108, ia u3), (109, ia u4)])) rfl rfl rfl ?_
        refine RT_step (pc2 := 1) rfl (fun _ _ => rfl) ?_
        refine RT_step (pc2 := 2) rfl (fun _ _ => rfl) ?_
        refine ow_gf rfl rfl rfl hlen rfl ?_
        refine RT_step (pc2 := 6) rfl (fun _ _ => rfl) ?_
        refine ow_gf rfl rfl rfl hlen rfl ?_
        refine ow_is1 (l2 := ((1, T) :: (2, bcl bs) :: [(13, dcl13 P Dn lw cl id gl bo), (14, lng pn), (15, ia ri), (16, ia lf), (17, ia wa), (18, ia fo), (19, lng dn), (20, ia ha), (21, ia pa), (22, ia bl), (105, bkc o bv), (106, ia u1), (107, ia u2), (108, ia u3), (109, ia u4)])) rfl rfl rfl rfl rfl (hz.up (by decide)) rfl ?_
        exact ow_irt rfl rfl rfl
      refine FR_st2 (l2 := ((1, T) :: (2, bcl bs) :: [(13, dcl13 P Dn lw cl id gl bo), (14, lng pn), (15, ia ri), (16, ia lf), (17, ia wa), (18, ia fo), (19, lng dn), (20, ia ha), (21, ia pa), (22, ia bl), (105, bkc o bv), (106, ia u1), (107, ia u2), (108, ia u3), (109, ia u4)])) rfl rfl rfl ?_
      refine RT_step (pc2 := 1) rfl (fun _ _ => rfl) ?_
      refine RT_step (pc2 := 2) rfl (fun _ _ => rfl) ?_
      refine ow_iv1 (l2 := ((1, T) :: (2, bcl bs) :: [(13, dcl13 P Dn lw cl id gl bo), (14, lng pn), (15, ia ri), (16, ia lf), (17, ia wa), (18, ia fo), (19, lng dn), (20, ia ha), (21, ia pa), (22, ia bl), (105, bkc o bv), (106, ia u1), (107, ia u2), (108, ia u3), (109, ia u4)])) rfl rfl rfl rfl hlen rfl rfl rfl (hy.up (by decide)) rfl ?_
      refine RT_step (pc2 := 6) rfl (fun _ _ => rfl) ?_
      refine RT_step (pc2 := 7) rfl (fun _ _ => rfl) ?_
      refine rt_ico rfl ki_m1 ?_
      refine biT_ne rfl rfl ?_
      refine rt_ico rfl ki_0 ?_
      exact ow_irt rfl rfl rfl
    · refine FR_st2 (l2 := ((180, M) :: (181, mtl ts) :: [(182, ia nw), (187, lng nz), (200, ia li)])) rfl rfl rfl ?_
      refine RT_step (pc2 := 1) rfl (fun _ _ => rfl) ?_
      refine rt_bip rfl k8_16 ?_
      refine ow_iv1 (l2 := ((180, mcl (Int32.ofNat 0) (Int32.ofNat 0) n lim a pl (km kd) nm sg (Int32.ofNat 0) qm wd td (posb vs o)) :: (181, mtl ts) :: [(182, ia nw), (187, lng nz), (200, ia li)])) rfl rfl rfl rfl hlen rfl rfl rfl ((m_isWord (k := 16) (ov_hl hlen) (ov_at rfl (ov_lt hlen (by decide))) (km_is kd t.2.2.2.1).2.2.2.2.2 (by decide)).up (by omega)) rfl ?_
      refine RT_step (pc2 := 7) rfl (fun _ _ => rfl) ?_
      refine RT_step (pc2 := 8) rfl (fun _ _ => rfl) ?_
      refine bcT_ne rfl (b01_f hd0) ?_
      refine RT_step (pc2 := 12) rfl (fun _ _ => rfl) ?_
      refine ow_iv1 (l2 := ((180, mcl (Int32.ofNat 0) (Int32.ofNat 0) n lim a pl (km kd) nm sg (Int32.ofNat 0) qm wd td (posb vs o)) :: (181, mtl ts) :: [(182, ia nw), (187, lng nz), (200, ia li)])) rfl rfl rfl rfl hlen rfl rfl rfl ((m_isName (ov_hl hlen) (ov_at rfl (ov_lt hlen (by decide))) (km_is kd t.2.2.2.1).2.2.2.2.2).up (by omega)) rfl ?_
      refine bcT_ne rfl (b01_f hnm) ?_
      refine RT_step (pc2 := 19) rfl (fun _ _ => rfl) ?_
      refine rt_ico rfl ki_1 ?_
      refine ow_iv1 (l2 := ((180, M) :: (181, mtl ts) :: [(182, ia nw), (187, lng nz), (200, ia li)])) rfl rfl rfl rfl hlen rfl rfl rfl ((hm _ (ov_hl hlen) (ov_at rfl (ov_lt hlen (by decide))) (ov_at rfl (ov_lt hlen (by decide)))).up (by omega)) rfl ?_
      exact ow_irt rfl rfl rfl
theorem b_day13 {B : Nat → Nat} {bs ts : List Int32} {vs : Nat → Value} {bv : Nat → Int32} {n lim : Nat} {k a kd pl w : Nat} {le : Int64} {nu tk td fp nm sg qm : Int32} {wd : Int64} {o : Nat} {u1 u2 u3 u4 nw li : List Int32} {nz : List Int64} {P : Nat} {Dn : Nat} {lw : Int32} {cl : Int32} {id : Int32} {gl : Nat} {bo : Nat} {pn : List Int64} {ri : List Int32} {lf : List Int32} {wa : List Int32} {fo : List Int32} {dn : List Int64} {ha : List Int32} {pa : List Int32} {bl : List Int32} (hB : BY bs B) (hM : MY ts B) (hb : ∀ i, B i < 256) (hn : n ≤ 940) (hl : lim ≤ 940) (t : TF k n a kd w le nu nm sg wd) (hday : w = 16) (hP : P ≤ 7) (hDn : Dn ≤ 8) (lp : pn.length = 7) (ld : dn.length = 8) (lz : nz.length = 15) (hv : nw[0]? = some (Int32.ofNat P)) (hv1 : nw[1]? = some (Int32.ofNat Dn)) (hN : ∀ i, i < P → ∃ ss, nok ss ∧ pn[i]? = some (p5 ss) ∧ nz[0 + i]? = some (p27 ss)) (hN2 : ∀ i, i < Dn → ∃ ss, nok ss ∧ dn[i]? = some (p5 ss) ∧ nz[7 + i]? = some (p27 ss)) (bx : BX o u1 u2 u3 u4) (ln : li.length = 160) : (∃ (T M : AE) (li2 : List Int32), FC n lim (posb vs o) T M ∧ li2.length = 160 ∧ LSb 12 52 [.ref 105, .ref 1] 14 246 [.ref 180] ((1, tcl n lim a kd pl w le nu tk (Int32.ofNat 0) fp) :: (2, bcl bs) :: [(13, dcl13 P Dn lw cl id gl bo), (14, lng pn), (15, ia ri), (16, ia lf), (17, ia wa), (18, ia fo), (19, lng dn), (20, ia ha), (21, ia pa), (22, ia bl), (105, bkc o bv), (106, ia u1), (107, ia u2), (108, ia u3), (109, ia u4)]) ((180, mcl (Int32.ofNat 0) (Int32.ofNat 0) n lim a pl (km kd) nm sg (Int32.ofNat 0) qm wd td (posb vs o)) :: (181, mtl ts) :: [(182, ia nw), (187, lng nz), (200, ia li)]) (.int (Int32.ofNat 0)) (.int (Int32.ofNat 0)) [(1, T)] [(180, M), (200, ia li2)]) ∨ (o < 40 ∧ ∃ (k2 : Nat) (tk2 td2 : Int32) (T M : AE) (v1 v2 v3 v4 li2 : List Int32), TC n lim (posb vs o) k2 tk2 td2 T M ∧ BX (o + 1) v1 v2 v3 v4 ∧ li2.length = 160 ∧ (∀ H : List AE, Nat.ble 204 H.length = true → FR 12 52 [.ref 105, .ref 1] (ov H ((1, tcl n lim a kd pl w le nu tk (Int32.ofNat 0) fp) :: (2, bcl bs) :: [(13, dcl13 P Dn lw cl id gl bo), (14, lng pn), (15, ia ri), (16, ia lf), (17, ia wa), (18, ia fo), (19, lng dn), (20, ia ha), (21, ia pa), (22, ia bl), (105, bkc o bv), (106, ia u1), (107, ia u2), (108, ia u3), (109, ia u4)])) (some (.int (Int32.ofNat 1)), ov (ov H ((1, tcl n lim a kd pl w le nu tk (Int32.ofNat 0) fp) :: (2, bcl bs) :: [(13, dcl13 P Dn lw cl id gl bo), (14, lng pn), (15, ia ri), (16, ia lf), (17, ia wa), (18, ia fo), (19, lng dn), (20, ia ha), (21, ia pa), (22, ia bl), (105, bkc o bv), (106, ia u1), (107, ia u2), (108, ia u3), (109, ia u4)])) [(1, T), (105, bkc (o + 1) bv), (106, ia v1), (107, ia v2), (108, ia v3), (109, ia v4)])) ∧ ∀ (H : List AE) (dd : Nat) (q : ev_R), Nat.ble 204 H.length = true → (∀ L2, ev_g L2 0 = some (.ref 180) → RT MM (dd + 13) 246 169 L2 [] (ov H ((180, M) :: (181, mtl ts) :: [(182, ia nw), (187, lng nz), (200, ia li2)])) q) → RT MM (dd + 13) 246 0 (lv_args 0 [.ref 180]) [] (ov H ((180, mcl (Int32.ofNat 0) (Int32.ofNat 0) n lim a pl (km kd) nm sg (Int32.ofNat 0) qm wd td (posb vs o)) :: (181, mtl ts) :: [(182, ia nw), (187, lng nz), (200, ia li)])) q) := by
  have hd1 : isW (km kd) wd 16 = true := by
    rw [w_is t (by decide)]
    exact decide_eq_true hday
  have ho0 := bx.1
  have hk1 := w_k1 t (by omega)
  by_cases co : o = 40
  · obtain ⟨T, M, f, hx, hm⟩ := s_ref (bs := bs) (ts := ts) (lim := lim) (po := (posb vs o)) (pl := pl) (tk := tk) (td := td) (fp := fp) (plM := qm) t (kk := 4) (by decide) (by decide) (Or.inl (by omega))
    refine Or.inl ⟨T, M, li, f, ln, fun H hlen => ?_, fun H hlen => ?_⟩
    · refine FR_st2 (l2 := ((1, T) :: (2, bcl bs) :: [(13, dcl13 P Dn lw cl id gl bo), (14, lng pn), (15, ia ri), (16, ia lf), (17, ia wa), (18, ia fo), (19, lng dn), (20, ia ha), (21, ia pa), (22, ia bl), (105, bkc o bv), (106, ia u1), (107, ia u2), (108, ia u3), (109, ia u4)])) rfl rfl rfl ?_
      refine RT_step (pc2 := 1) rfl (fun _ _ => rfl) ?_
      refine ow_gf rfl rfl rfl hlen rfl ?_
      refine rt_bip rfl k8_40 ?_
      refine biF_lt rfl (n_nlt (by omega) (by omega)) ?_
      refine RT_step (pc2 := 10) rfl (fun _ _ => rfl) ?_
      refine rt_ico rfl ki_4 ?_
      refine ow_iv1 (l2 := ((1, T) :: (2, bcl bs) :: [(13, dcl13 P Dn lw cl id gl bo), (14, lng pn), (15, ia ri), (16, ia lf), (17, ia wa), (18, ia fo), (19, lng dn), (20, ia ha), (21, ia pa), (22, ia bl), (105, bkc o bv), (106, ia u1), (107, ia u2), (108, ia u3), (109, ia u4)])) rfl rfl rfl rfl hlen rfl rfl rfl ((hx _ (ov_hl hlen) (ov_at rfl (ov_lt hlen (by decide))) (ov_at rfl (ov_lt hlen (by decide)))).up (by decide)) rfl ?_
      exact ow_irt rfl rfl rfl
    · refine FR_st2 (l2 := ((180, M) :: (181, mtl ts) :: [(182, ia nw), (187, lng nz), (200, ia li)])) rfl rfl rfl ?_
      refine RT_step (pc2 := 1) rfl (fun _ _ => rfl) ?_
      refine rt_bip rfl k8_16 ?_
      refine ow_iv1 (l2 := ((180, mcl (Int32.ofNat 0) (Int32.ofNat 0) n lim a pl (km kd) nm sg (Int32.ofNat 0) qm wd td (posb vs o)) :: (181, mtl ts) :: [(182, ia nw), (187, lng nz), (200, ia li)])) rfl rfl rfl rfl hlen rfl rfl rfl ((m_isWord (k := 16) (ov_hl hlen) (ov_at rfl (ov_lt hlen (by decide))) (km_is kd t.2.2.2.1).2.2.2.2.2 (by decide)).up (by omega)) rfl ?_
      refine RT_step (pc2 := 7) rfl (fun _ _ => rfl) ?_
      refine RT_step (pc2 := 8) rfl (fun _ _ => rfl) ?_
      refine bcF_ne rfl (b01_t hd1) ?_
      refine RT_step (pc2 := 53) rfl (fun _ _ => rfl) ?_
      refine ow_gf rfl rfl rfl hlen rfl ?_
      refine rt_bip rfl k8_40 ?_
      refine biT_ne rfl (n_eq co) ?_
      refine RT_step (pc2 := 62) rfl (fun _ _ => rfl) ?_
      refine rt_ico rfl ki_4 ?_
      refine ow_iv1 (l2 := ((180, M) :: (181, mtl ts) :: [(182, ia nw), (187, lng nz), (200, ia li)])) rfl rfl rfl rfl hlen rfl rfl rfl ((hm _ (ov_hl hlen) (ov_at rfl (ov_lt hlen (by decide))) (ov_at rfl (ov_lt hlen (by decide)))).up (by omega)) rfl ?_
      exact ow_irt rfl rfl rfl
  · have ho : o < 40 := by omega
    obtain ⟨T1, M1, c1, x1, m1⟩ := s_adv hB hM hb hn hl (po := (posb vs o)) (pl := pl) (tk := tk) (td := td) (fp := fp) (plM := qm) t (by omega) (by omega)
    obtain ⟨a1, kd1, pl1, w1, le1, nu1, fp1, nm1, sg1, qm1, wd1, rfl, rfl, t1⟩ := c1
    rcases s_num hB hM hb hn hl (po := (posb vs o)) (pl := pl1) (tk := tk) (td := td) (fp := fp1) (plM := qm1) t1 (lo := 1) (hi := 60) (by decide) (by decide) with ⟨T, M, f, hx, hm⟩ | ⟨v, T3, M3, vv1, vv2, c3, hx, hm⟩
    · obtain ⟨a9, kd9, pl9, w9, le9, nu9, tk9, kk9, am9, fm9, kM9, nm9, sg9, fa9, qm9, wd9, td9, rfl, rfl, f9⟩ := f
      refine Or.inl ⟨tcl n lim a9 kd9 pl9 w9 le9 nu9 tk9 (Int32.ofNat kk9) (Int32.ofNat pl9), mcl (Int32.ofNat 0) (Int32.ofNat 0) n lim am9 fm9 kM9 nm9 sg9 fa9 qm9 wd9 td9 (posb vs o), ((((li.set (4 * o) (Int32.ofNat 5)).set (4 * o + 1) (Int32.ofNat 0)).set (4 * o + 2) (Int32.ofNat 0)).set (4 * o + 3) (Int32.ofNat 0)), ⟨a9, kd9, pl9, w9, le9, nu9, tk9, kk9, am9, fm9, kM9, nm9, sg9, fa9, qm9, wd9, td9, rfl, rfl, f9⟩, by simp only [List.length_set]; exact ln, fun H hlen => ?_, fun H hlen => ?_⟩
      · refine FR_st2 (l2 := ((1, tcl n lim a9 kd9 pl9 w9 le9 nu9 tk9 (Int32.ofNat kk9) (Int32.ofNat pl9)) :: (2, bcl bs) :: [(13, dcl13 P Dn lw cl id gl bo), (14, lng pn), (15, ia ri), (16, ia lf), (17, ia wa), (18, ia fo), (19, lng dn), (20, ia ha), (21, ia pa), (22, ia bl), (105, bkc o bv), (106, ia u1), (107, ia u2), (108, ia u3), (109, ia u4)])) rfl rfl rfl ?_
        refine RT_step (pc2 := 1) rfl (fun _ _ => rfl) ?_
        refine ow_gf rfl rfl rfl hlen rfl ?_
        refine rt_bip rfl k8_40 ?_
        refine biT_lt rfl (n_lt (by omega) (by omega)) ?_
        refine RT_step (pc2 := 16) rfl (fun _ _ => rfl) ?_
        refine ow_iv0 (l2 := ((1, tcl n lim a1 kd1 pl1 w1 le1 nu1 tk (Int32.ofNat 0) fp1) :: (2, bcl bs) :: [(13, dcl13 P Dn lw cl id gl bo), (14, lng pn), (15, ia ri), (16, ia lf), (17, ia wa), (18, ia fo), (19, lng dn), (20, ia ha), (21, ia pa), (22, ia bl), (105, bkc o bv), (106, ia u1), (107, ia u2), (108, ia u3), (109, ia u4)])) rfl rfl rfl rfl hlen rfl rfl rfl ((x1 _ (ov_hl hlen) (ov_at rfl (ov_lt hlen (by decide))) (ov_at rfl (ov_lt hlen (by decide)))).up (by decide)) rfl ?_
        refine RT_step (pc2 := 20) rfl (fun _ _ => rfl) ?_
        refine rt_ico rfl ki_1 ?_
        refine rt_bip rfl k8_60 ?_
        refine ow_iv1 (l2 := ((1, tcl n lim a9 kd9 pl9 w9 le9 nu9 tk9 (Int32.ofNat kk9) (Int32.ofNat pl9)) :: (2, bcl bs) :: [(13, dcl13 P Dn lw cl id gl bo), (14, lng pn), (15, ia ri), (16, ia lf), (17, ia wa), (18, ia fo), (19, lng dn), (20, ia ha), (21, ia pa), (22, ia bl), (105, bkc o bv), (106, ia u1), (107, ia u2), (108, ia u3), (109, ia u4)])) rfl rfl rfl rfl hlen rfl rfl rfl ((hx _ (ov_hl hlen) (ov_at rfl (ov_lt hlen (by decide))) (ov_at rfl (ov_lt hlen (by decide)))).up (by decide)) rfl ?_
        refine bcT_ne rfl rfl ?_
        refine rt_ico rfl ki_0 ?_
        exact ow_irt rfl rfl rfl
      · refine FR_st2 (l2 := ((180, mcl (Int32.ofNat 0) (Int32.ofNat 0) n lim am9 fm9 kM9 nm9 sg9 fa9 qm9 wd9 td9 (posb vs o)) :: (181, mtl ts) :: [(182, ia nw), (187, lng nz), (200, ia ((((li.set (4 * o) (Int32.ofNat 5)).set (4 * o + 1) (Int32.ofNat 0)).set (4 * o + 2) (Int32.ofNat 0)).set (4 * o + 3) (Int32.ofNat 0)))])) rfl rfl rfl ?_
        refine RT_step (pc2 := 1) rfl (fun _ _ => rfl) ?_
        refine rt_bip rfl k8_16 ?_
        refine ow_iv1 (l2 := ((180, mcl (Int32.ofNat 0) (Int32.ofNat 0) n lim a pl (km kd) nm sg (Int32.ofNat 0) qm wd td (posb vs o)) :: (181, mtl ts) :: [(182, ia nw), (187, lng nz), (200, ia li)])) rfl rfl rfl rfl hlen rfl rfl rfl ((m_isWord (k := 16) (ov_hl hlen) (ov_at rfl (ov_lt hlen (by decide))) (km_is kd t.2.2.2.1).2.2.2.2.2 (by decide)).up (by omega)) rfl ?_
        refine RT_step (pc2 := 7) rfl (fun _ _ => rfl) ?_
        refine RT_step (pc2 := 8) rfl (fun _ _ => rfl) ?_
        refine bcF_ne rfl (b01_t hd1) ?_
        refine RT_step (pc2 := 53) rfl (fun _ _ => rfl) ?_
        refine ow_gf rfl rfl rfl hlen rfl ?_
        refine rt_bip rfl k8_40 ?_
        refine biF_ne rfl (n_ne co (by omega) (by omega)) ?_
        refine rt_ico rfl ki_4 ?_
        refine RT_step (pc2 := 69) rfl (fun _ _ => rfl) ?_
        refine ow_gf rfl rfl rfl hlen rfl ?_
        refine ba_imul rfl ?_
        rw [nmul4]
        refine RT_step (pc2 := 74) rfl (fun _ _ => rfl) ?_
        refine RT_step (pc2 := 75) rfl (fun _ _ => rfl) ?_
        refine ow_gf rfl rfl rfl hlen rfl ?_
        refine RT_step (pc2 := 79) rfl (fun _ _ => rfl) ?_
        refine rt_ico rfl ki_5 ?_
        refine ow_iasN (l2 := ((180, mcl (Int32.ofNat 0) (Int32.ofNat 0) n lim a pl (km kd) nm sg (Int32.ofNat 0) qm wd td (posb vs o)) :: (181, mtl ts) :: [(182, ia nw), (187, lng nz), (200, ia (li.set (4 * o) (Int32.ofNat 5)))])) rfl rfl (by (try simp only [List.length_set]); omega) (by omega) hlen rfl rfl ?_
        refine RT_step (pc2 := 82) rfl (fun _ _ => rfl) ?_
        refine ow_gf rfl rfl rfl hlen rfl ?_
        refine RT_step (pc2 := 86) rfl (fun _ _ => rfl) ?_
        refine rt_ico rfl ki_1 ?_
        refine ba_iadd rfl ?_
        rw [n_add]
        refine RT_step (pc2 := 89) rfl (fun _ _ => rfl) ?_
        refine bcF_eq rfl (b01_t hd1) ?_
        refine rt_ico rfl ki_0 ?_
        refine RT_step (pc2 := 114) rfl (fun _ _ => rfl) ?_
        refine ow_iasN (l2 := ((180, mcl (Int32.ofNat 0) (Int32.ofNat 0) n lim a pl (km kd) nm sg (Int32.ofNat 0) qm wd td (posb vs o)) :: (181, mtl ts) :: [(182, ia nw), (187, lng nz), (200, ia ((li.set (4 * o) (Int32.ofNat 5)).set (4 * o + 1) (Int32.ofNat 0)))])) rfl rfl (by (try simp only [List.length_set]); omega) (by omega) hlen rfl rfl ?_
        refine RT_step (pc2 := 116) rfl (fun _ _ => rfl) ?_
        refine ow_gf rfl rfl rfl hlen rfl ?_
        refine RT_step (pc2 := 120) rfl (fun _ _ => rfl) ?_
        refine rt_ico rfl ki_2 ?_
        refine ba_iadd rfl ?_
        rw [n_add]
        refine rt_ico rfl ki_0 ?_
        refine ow_iasN (l2 := ((180, mcl (Int32.ofNat 0) (Int32.ofNat 0) n lim a pl (km kd) nm sg (Int32.ofNat 0) qm wd td (posb vs o)) :: (181, mtl ts) :: [(182, ia nw), (187, lng nz), (200, ia (((li.set (4 * o) (Int32.ofNat 5)).set (4 * o + 1) (Int32.ofNat 0)).set (4 * o + 2) (Int32.ofNat 0)))])) rfl rfl (by (try simp only [List.length_set]); omega) (by omega) hlen rfl rfl ?_
        refine RT_step (pc2 := 125) rfl (fun _ _ => rfl) ?_
        refine ow_gf rfl rfl rfl hlen rfl ?_
        refine RT_step (pc2 := 129) rfl (fun _ _ => rfl) ?_
        refine rt_ico rfl ki_3 ?_
        refine ba_iadd rfl ?_
        rw [n_add]
        refine rt_ico rfl ki_0 ?_
        refine ow_iasN (l2 := ((180, mcl (Int32.ofNat 0) (Int32.ofNat 0) n lim a pl (km kd) nm sg (Int32.ofNat 0) qm wd td (posb vs o)) :: (181, mtl ts) :: [(182, ia nw), (187, lng nz), (200, ia ((((li.set (4 * o) (Int32.ofNat 5)).set (4 * o + 1) (Int32.ofNat 0)).set (4 * o + 2) (Int32.ofNat 0)).set (4 * o + 3) (Int32.ofNat 0)))])) rfl rfl (by (try simp only [List.length_set]); omega) (by omega) hlen rfl rfl ?_
        refine RT_step (pc2 := 134) rfl (fun _ _ => rfl) ?_
        refine ow_iv0 (l2 := ((180, mcl (Int32.ofNat 0) (Int32.ofNat 0) n lim a1 pl1 (km kd1) nm1 sg1 (Int32.ofNat 0) qm1 wd1 td (posb vs o)) :: (181, mtl ts) :: [(182, ia nw), (187, lng nz), (200, ia ((((li.set (4 * o) (Int32.ofNat 5)).set (4 * o + 1) (Int32.ofNat 0)).set (4 * o + 2) (Int32.ofNat 0)).set (4 * o + 3) (Int32.ofNat 0)))])) rfl rfl rfl rfl hlen rfl rfl rfl ((m1 _ (ov_hl hlen) (ov_at rfl (ov_lt hlen (by decide))) (ov_at rfl (ov_lt hlen (by decide)))).up (by omega)) rfl ?_
        refine RT_step (pc2 := 138) rfl (fun _ _ => rfl) ?_
        refine bcF_eq rfl (b01_t hd1) ?_
        refine RT_step (pc2 := 142) rfl (fun _ _ => rfl) ?_
        refine RT_step (pc2 := 143) rfl (fun _ _ => rfl) ?_
        refine rt_ico rfl ki_1 ?_
        refine ba_iadd rfl ?_
        rw [n_add]
        refine RT_step (pc2 := 146) rfl (fun _ _ => rfl) ?_
        refine rt_ico rfl ki_1 ?_
        refine rt_bip rfl k8_60 ?_
        refine ow_iv1 (l2 := ((180, mcl (Int32.ofNat 0) (Int32.ofNat 0) n lim am9 fm9 kM9 nm9 sg9 fa9 qm9 wd9 td9 (posb vs o)) :: (181, mtl ts) :: [(182, ia nw), (187, lng nz), (200, ia ((((li.set (4 * o) (Int32.ofNat 5)).set (4 * o + 1) (Int32.ofNat 0)).set (4 * o + 2) (Int32.ofNat 0)).set (4 * o + 3) (Int32.ofNat 0)))])) rfl rfl rfl rfl hlen rfl rfl rfl ((hm _ (ov_hl hlen) (ov_at rfl (ov_lt hlen (by decide))) (ov_at rfl (ov_lt hlen (by decide)))).up (by omega)) rfl ?_
        refine ow_iv1 (l2 := ((180, mcl (Int32.ofNat 0) (Int32.ofNat 0) n lim am9 fm9 kM9 nm9 sg9 fa9 qm9 wd9 td9 (posb vs o)) :: (181, mtl ts) :: [(182, ia nw), (187, lng nz), (200, ia ((((li.set (4 * o) (Int32.ofNat 5)).set (4 * o + 1) (Int32.ofNat 0)).set (4 * o + 2) (Int32.ofNat 0)).set (4 * o + 3) (Int32.ofNat 0)))])) rfl rfl rfl rfl hlen rfl rfl rfl (m_kp0.up (by omega)) rfl ?_
        refine bcT_eq rfl rfl ?_
        refine rt_ico rfl ki_0 ?_
        exact ow_irt rfl rfl rfl
    · obtain ⟨a3, kd3, pl3, w3, le3, nu3, fp3, nm3, sg3, qm3, wd3, rfl, rfl, t3⟩ := c3
      obtain ⟨v1, v2, v3, v4, bx2, hadd⟩ := bx_add bx ho (Int32.ofNat 50) (Int32.ofNat 0) (Int32.ofNat v) (Int32.ofNat 0)
      refine Or.inr ⟨ho, _, (Int32.ofNat v), (Int32.ofNat v), tcl n lim a3 kd3 pl3 w3 le3 nu3 (Int32.ofNat v) (Int32.ofNat 0) fp3, mcl (Int32.ofNat 0) (Int32.ofNat 0) n lim a3 pl3 (km kd3) nm3 sg3 (Int32.ofNat 0) qm3 wd3 (Int32.ofNat v) (posb vs o), v1, v2, v3, v4, (((((li.set (4 * o) (Int32.ofNat 5)).set (4 * o + 1) (Int32.ofNat 0)).set (4 * o + 2) (Int32.ofNat 0)).set (4 * o + 3) (Int32.ofNat 0)).set (4 * o + 1) (Int32.ofNat v)), tf_td t3, bx2, by simp only [List.length_set]; exact ln, fun H hlen => ?_, fun H dd q hlen hq => ?_⟩
      · refine FR_st2 (l2 := ((1, tcl n lim a3 kd3 pl3 w3 le3 nu3 (Int32.ofNat v) (Int32.ofNat 0) fp3) :: (2, bcl bs) :: [(13, dcl13 P Dn lw cl id gl bo), (14, lng pn), (15, ia ri), (16, ia lf), (17, ia wa), (18, ia fo), (19, lng dn), (20, ia ha), (21, ia pa), (22, ia bl), (105, bkc (o + 1) bv), (106, ia v1), (107, ia v2), (108, ia v3), (109, ia v4)])) rfl rfl rfl ?_
        refine RT_step (pc2 := 1) rfl (fun _ _ => rfl) ?_
        refine ow_gf rfl rfl rfl hlen rfl ?_
        refine rt_bip rfl k8_40 ?_
        refine biT_lt rfl (n_lt (by omega) (by omega)) ?_
        refine RT_step (pc2 := 16) rfl (fun _ _ => rfl) ?_
        refine ow_iv0 (l2 := ((1, tcl n lim a1 kd1 pl1 w1 le1 nu1 tk (Int32.ofNat 0) fp1) :: (2, bcl bs) :: [(13, dcl13 P Dn lw cl id gl bo), (14, lng pn), (15, ia ri), (16, ia lf), (17, ia wa), (18, ia fo), (19, lng dn), (20, ia ha), (21, ia pa), (22, ia bl), (105, bkc o bv), (106, ia u1), (107, ia u2), (108, ia u3), (109, ia u4)])) rfl rfl rfl rfl hlen rfl rfl rfl ((x1 _ (ov_hl hlen) (ov_at rfl (ov_lt hlen (by decide))) (ov_at rfl (ov_lt hlen (by decide)))).up (by decide)) rfl ?_
        refine RT_step (pc2 := 20) rfl (fun _ _ => rfl) ?_
        refine rt_ico rfl ki_1 ?_
        refine rt_bip rfl k8_60 ?_
        refine ow_iv1 (l2 := ((1, tcl n lim a3 kd3 pl3 w3 le3 nu3 (Int32.ofNat v) (Int32.ofNat 0) fp3) :: (2, bcl bs) :: [(13, dcl13 P Dn lw cl id gl bo), (14, lng pn), (15, ia ri), (16, ia lf), (17, ia wa), (18, ia fo), (19, lng dn), (20, ia ha), (21, ia pa), (22, ia bl), (105, bkc o bv), (106, ia u1), (107, ia u2), (108, ia u3), (109, ia u4)])) rfl rfl rfl rfl hlen rfl rfl rfl ((hx _ (ov_hl hlen) (ov_at rfl (ov_lt hlen (by decide))) (ov_at rfl (ov_lt hlen (by decide)))).up (by decide)) rfl ?_
        refine bcF_ne rfl (by decide) ?_
        refine RT_step (pc2 := 32) rfl (fun _ _ => rfl) ?_
        refine rt_bip rfl k8_50 ?_
        refine rt_ico rfl ki_0 ?_
        refine RT_step (pc2 := 36) rfl (fun _ _ => rfl) ?_
        refine ow_gf rfl rfl rfl hlen rfl ?_
        refine rt_ico rfl ki_0 ?_
        refine ow_iv0 (l2 := ((1, tcl n lim a3 kd3 pl3 w3 le3 nu3 (Int32.ofNat v) (Int32.ofNat 0) fp3) :: (2, bcl bs) :: [(13, dcl13 P Dn lw cl id gl bo), (14, lng pn), (15, ia ri), (16, ia lf), (17, ia wa), (18, ia fo), (19, lng dn), (20, ia ha), (21, ia pa), (22, ia bl), (105, bkc (o + 1) bv), (106, ia v1), (107, ia v2), (108, ia v3), (109, ia v4)])) rfl rfl rfl rfl hlen rfl rfl rfl ((hadd bv _ (ov_hl hlen) (ov_at rfl (ov_lt hlen (by decide))) (ov_at rfl (ov_lt hlen (by decide))) (ov_at rfl (ov_lt hlen (by decide))) (ov_at rfl (ov_lt hlen (by decide))) (ov_at rfl (ov_lt hlen (by decide)))).up (by decide)) rfl ?_
        refine rt_ico rfl ki_1 ?_
        exact ow_irt rfl rfl rfl
      · refine RT_step (pc2 := 1) rfl (fun _ _ => rfl) ?_
        refine rt_bip rfl k8_16 ?_
        refine ow_iv1 (l2 := ((180, mcl (Int32.ofNat 0) (Int32.ofNat 0) n lim a pl (km kd) nm sg (Int32.ofNat 0) qm wd td (posb vs o)) :: (181, mtl ts) :: [(182, ia nw), (187, lng nz), (200, ia li)])) rfl rfl rfl rfl hlen rfl rfl rfl ((m_isWord (k := 16) (ov_hl hlen) (ov_at rfl (ov_lt hlen (by decide))) (km_is kd t.2.2.2.1).2.2.2.2.2 (by decide)).up (by omega)) rfl ?_
        refine RT_step (pc2 := 7) rfl (fun _ _ => rfl) ?_
        refine RT_step (pc2 := 8) rfl (fun _ _ => rfl) ?_
        refine bcF_ne rfl (b01_t hd1) ?_
        refine RT_step (pc2 := 53) rfl (fun _ _ => rfl) ?_
        refine ow_gf rfl rfl rfl hlen rfl ?_
        refine rt_bip rfl k8_40 ?_
        refine biF_ne rfl (n_ne co (by omega) (by omega)) ?_
        refine rt_ico rfl ki_4 ?_
        refine RT_step (pc2 := 69) rfl (fun _ _ => rfl) ?_
        refine ow_gf rfl rfl rfl hlen rfl ?_
        refine ba_imul rfl ?_
        rw [nmul4]
        refine RT_step (pc2 := 74) rfl (fun _ _ => rfl) ?_
        refine RT_step (pc2 := 75) rfl (fun _ _ => rfl) ?_
        refine ow_gf rfl rfl rfl hlen rfl ?_
        refine RT_step (pc2 := 79) rfl (fun _ _ => rfl) ?_
        refine rt_ico rfl ki_5 ?_
        refine ow_iasN (l2 := ((180, mcl (Int32.ofNat 0) (Int32.ofNat 0) n lim a pl (km kd) nm sg (Int32.ofNat 0) qm wd td (posb vs o)) :: (181, mtl ts) :: [(182, ia nw), (187, lng nz), (200, ia (li.set (4 * o) (Int32.ofNat 5)))])) rfl rfl (by (try simp only [List.length_set]); omega) (by omega) hlen rfl rfl ?_
        refine RT_step (pc2 := 82) rfl (fun _ _ => rfl) ?_
        refine ow_gf rfl rfl rfl hlen rfl ?_
        refine RT_step (pc2 := 86) rfl (fun _ _ => rfl) ?_
        refine rt_ico rfl ki_1 ?_
        refine ba_iadd rfl ?_
        rw [n_add]
        refine RT_step (pc2 := 89) rfl (fun _ _ => rfl) ?_
        refine bcF_eq rfl (b01_t hd1) ?_
        refine rt_ico rfl ki_0 ?_
        refine RT_step (pc2 := 114) rfl (fun _ _ => rfl) ?_
        refine ow_iasN (l2 := ((180, mcl (Int32.ofNat 0) (Int32.ofNat 0) n lim a pl (km kd) nm sg (Int32.ofNat 0) qm wd td (posb vs o)) :: (181, mtl ts) :: [(182, ia nw), (187, lng nz), (200, ia ((li.set (4 * o) (Int32.ofNat 5)).set (4 * o + 1) (Int32.ofNat 0)))])) rfl rfl (by (try simp only [List.length_set]); omega) (by omega) hlen rfl rfl ?_
        refine RT_step (pc2 := 116) rfl (fun _ _ => rfl) ?_
        refine ow_gf rfl rfl rfl hlen rfl ?_
        refine RT_step (pc2 := 120) rfl (fun _ _ => rfl) ?_
        refine rt_ico rfl ki_2 ?_
        refine ba_iadd rfl ?_
        rw [n_add]
        refine rt_ico rfl ki_0 ?_
        refine ow_iasN (l2 := ((180, mcl (Int32.ofNat 0) (Int32.ofNat 0) n lim a pl (km kd) nm sg (Int32.ofNat 0) qm wd td (posb vs o)) :: (181, mtl ts) :: [(182, ia nw), (187, lng nz), (200, ia (((li.set (4 * o) (Int32.ofNat 5)).set (4 * o + 1) (Int32.ofNat 0)).set (4 * o + 2) (Int32.ofNat 0)))])) rfl rfl (by (try simp only [List.length_set]); omega) (by omega) hlen rfl rfl ?_
        refine RT_step (pc2 := 125) rfl (fun _ _ => rfl) ?_
        refine ow_gf rfl rfl rfl hlen rfl ?_
        refine RT_step (pc2 := 129) rfl (fun _ _ => rfl) ?_
        refine rt_ico rfl ki_3 ?_
        refine ba_iadd rfl ?_
        rw [n_add]
        refine rt_ico rfl ki_0 ?_
        refine ow_iasN (l2 := ((180, mcl (Int32.ofNat 0) (Int32.ofNat 0) n lim a pl (km kd) nm sg (Int32.ofNat 0) qm wd td (posb vs o)) :: (181, mtl ts) :: [(182, ia nw), (187, lng nz), (200, ia ((((li.set (4 * o) (Int32.ofNat 5)).set (4 * o + 1) (Int32.ofNat 0)).set (4 * o + 2) (Int32.ofNat 0)).set (4 * o + 3) (Int32.ofNat 0)))])) rfl rfl (by (try simp only [List.length_set]); omega) (by omega) hlen rfl rfl ?_
        refine RT_step (pc2 := 134) rfl (fun _ _ => rfl) ?_
        refine ow_iv0 (l2 := ((180, mcl (Int32.ofNat 0) (Int32.ofNat 0) n lim a1 pl1 (km kd1) nm1 sg1 (Int32.ofNat 0) qm1 wd1 td (posb vs o)) :: (181, mtl ts) :: [(182, ia nw), (187, lng nz), (200, ia ((((li.set (4 * o) (Int32.ofNat 5)).set (4 * o + 1) (Int32.ofNat 0)).set (4 * o + 2) (Int32.ofNat 0)).set (4 * o + 3) (Int32.ofNat 0)))])) rfl rfl rfl rfl hlen rfl rfl rfl ((m1 _ (ov_hl hlen) (ov_at rfl (ov_lt hlen (by decide))) (ov_at rfl (ov_lt hlen (by decide)))).up (by omega)) rfl ?_
        refine RT_step (pc2 := 138) rfl (fun _ _ => rfl) ?_
        refine bcF_eq rfl (b01_t hd1) ?_
        refine RT_step (pc2 := 142) rfl (fun _ _ => rfl) ?_
        refine RT_step (pc2 := 143) rfl (fun _ _ => rfl) ?_
        refine rt_ico rfl ki_1 ?_
        refine ba_iadd rfl ?_
        rw [n_add]
        refine RT_step (pc2 := 146) rfl (fun _ _ => rfl) ?_
        refine rt_ico rfl ki_1 ?_
        refine rt_bip rfl k8_60 ?_
        refine ow_iv1 (l2 := ((180, mcl (Int32.ofNat 0) (Int32.ofNat 0) n lim a3 pl3 (km kd3) nm3 sg3 (Int32.ofNat 0) qm3 wd3 (Int32.ofNat v) (posb vs o)) :: (181, mtl ts) :: [(182, ia nw), (187, lng nz), (200, ia ((((li.set (4 * o) (Int32.ofNat 5)).set (4 * o + 1) (Int32.ofNat 0)).set (4 * o + 2) (Int32.ofNat 0)).set (4 * o + 3) (Int32.ofNat 0)))])) rfl rfl rfl rfl hlen rfl rfl rfl ((hm _ (ov_hl hlen) (ov_at rfl (ov_lt hlen (by decide))) (ov_at rfl (ov_lt hlen (by decide)))).up (by omega)) rfl ?_
        refine ow_iv1 (l2 := ((180, mcl (Int32.ofNat 0) (Int32.ofNat 0) n lim a3 pl3 (km kd3) nm3 sg3 (Int32.ofNat 0) qm3 wd3 (Int32.ofNat v) (posb vs o)) :: (181, mtl ts) :: [(182, ia nw), (187, lng nz), (200, ia (((((li.set (4 * o) (Int32.ofNat 5)).set (4 * o + 1) (Int32.ofNat 0)).set (4 * o + 2) (Int32.ofNat 0)).set (4 * o + 3) (Int32.ofNat 0)).set (4 * o + 1) (Int32.ofNat v)))])) rfl rfl rfl rfl hlen rfl rfl rfl ((m_kp1 (ov_hl hlen) (ov_at rfl (ov_lt hlen (by decide))) (ov_at rfl (ov_lt hlen (by decide))) (by (try simp only [List.length_set]); omega) (by omega)).up (by omega)) rfl ?_
        refine bcF_eq rfl (by decide) ?_
        refine RT_step (pc2 := 169) rfl (fun _ _ => rfl) ?_
        exact hq _ rfl
