/-! ===== all LINES (cells from 13 on) ===== -/
theorem lpn13 {B : Nat → Nat} {bs ts : List Int32} {n lim : Nat} {pr : List Value} (hB : BY bs B) (hM : MY ts B) (hb : ∀ i, B i < 256) (hn : n ≤ 940) (hl : lim ≤ 940) : ∀ (r k lines : Nat) (tk td : Int32) (T M : AE) (D R : List (Nat × AE)), n < k + r → 2 * lines ≤ k → TC n lim (pof pr) k tk td T M → SD13 D R → (∃ (pl : Nat) (T2 M2 : AE) (D2 R2 : List (Nat × AE)), FC2 n lim (pof pr) pl T2 M2 ∧ SH13 D2 ∧ SHR R2 ∧ (∀ (H : List AE) (L : List (Nat × Value)), Nat.ble 204 H.length = true → ev_g L 0 = some (.ref 13) → ev_g L 1 = some (.ref 1) → ev_g L 2 = some (.int (Int32.ofNat lines)) → RT MM 7 76 13 L [] (ov H ((1, T) :: (2, bcl bs) :: D)) (some (.int (-1 : Int32)), (ov H ((1, T2) :: (2, bcl bs) :: D2)))) ∧ ∀ (H : List AE) (L : List (Nat × Value)), Nat.ble 204 H.length = true → ev_g L 0 = some (.ref 180) → ev_g L 1 = some (.int (Int32.ofNat lines)) → RT MM 7 195 72 L [] (ov H ((180, M) :: (181, mtl ts) :: R)) (some (.int ((-1 : Int32) - Int32.ofNat pl)), (ov H ((180, M2) :: (181, mtl ts) :: R2)))) ∨ (∃ (ln2 : Nat) (tk2 td2 : Int32) (T2 M2 : AE) (D2 R2 : List (Nat × AE)), ln2 ≤ 940 ∧ TC n lim (pof pr) 0 tk2 td2 T2 M2 ∧ SE13 D2 R2 ∧ (∀ (H : List AE) (L : List (Nat × Value)), Nat.ble 204 H.length = true → ev_g L 0 = some (.ref 13) → ev_g L 1 = some (.ref 1) → ev_g L 2 = some (.int (Int32.ofNat lines)) → RT MM 7 76 13 L [] (ov H ((1, T) :: (2, bcl bs) :: D)) (some (.int (Int32.ofNat ln2)), (ov H ((1, T2) :: (2, bcl bs) :: D2)))) ∧ ∀ (H : List AE) (L : List (Nat × Value)) (q : ev_R), Nat.ble 204 H.length = true → ev_g L 0 = some (.ref 180) → ev_g L 1 = some (.int (Int32.ofNat lines)) → (∀ L2, ev_g L2 0 = some (.ref 180) → ev_g L2 1 = some (.int (Int32.ofNat ln2)) → RT MM 7 195 106 L2 [] (ov H ((180, M2) :: (181, mtl ts) :: R2)) q) → RT MM 7 195 72 L [] (ov H ((180, M) :: (181, mtl ts) :: R)) q) := by
  intro r
  induction r with
  | zero =>
    intro k lines tk td T M D R hr hk c g
    obtain ⟨a, kd, pl, w, le, nu, fp, nm, sg, qm, wd, rfl, rfl, t⟩ := c
    have h1 := t.1
    have h2 := t.2.1
    omega
  | succ r ih =>
    intro k lines tk td T M D R hr hk c g
    obtain ⟨a, kd, pl, w, le, nu, fp, nm, sg, qm, wd, rfl, rfl, t⟩ := c
    obtain ⟨P, Dn, lw, cl, id, gl, bo, pn, ri, lf, wa, fo, dn, ha, pa, bl, rd, rn, on, rfl, rfl, d⟩ := g
    have hlin : lines ≤ 470 := by have h1 := t.1; have h2 := t.2.1; omega
    have hkd := t.2.2.2.1
    by_cases c4 : kd = 4
    · obtain ⟨hP, hD, ⟨l1, l2, l3, l4, l5, l6, l7, l8, l9⟩, lr, ln, lo, hN, hV, hW, o1, o2, o3⟩ := d
      obtain ⟨v1, v2, v3, g1, g2, g3, hf⟩ := x_fill13 (bs := bs) (T := tcl n lim a kd pl w le nu tk (Int32.ofNat 0) fp) (P := P) (Dn := Dn) (lw := lw) (cl := cl) (id := id) (gl := gl) (bo := bo) (pn := pn) (ri := ri) (lf := lf) (wa := wa) (fo := fo) (dn := dn) (ha := ha) (pa := pa) (bl := bl) o1 o2 o3
      have e0 : km kd = 0 := (km_is kd hkd).2.2.2.2.1.mpr c4
      refine Or.inr ⟨lines, tk, td, tcl n lim a kd pl w le nu tk (Int32.ofNat 0) fp, mcl (Int32.ofNat 0) (Int32.ofNat 0) n lim a pl (km kd) nm sg (Int32.ofNat 0) qm wd td (pof pr), [(13, dcl13 P Dn v1 v2 v3 gl bo), (14, lng pn), (15, ia ri), (16, ia lf), (17, ia wa), (18, ia fo), (19, lng dn), (20, ia ha), (21, ia pa), (22, ia bl)], [(183, ia rd), (188, lng rn), (191, zb on)], by omega, tc_mono (tf_td t) (Nat.zero_le _), ⟨_, _, _, _, _, _, _, _, _, _, _, _, _, _, _, _, _, _, _, rfl, rfl, lr, ln, hP, hD, ⟨l1, l2, l3, l4, l5, l6, l7, l8, l9⟩, hN, hV, hW, g1, g2, g3⟩, fun H L hlen l0 l1 l2 => ?_, fun H L q hlen l0 l1 h => ?_⟩
      · refine rt_ild rfl l2 ?_
        refine rt_sip rfl k16_900 ?_
        refine biF_gt rfl (n_nlt (by omega) (by decide)) ?_
        refine rt_ald rfl l1 ?_
        refine ow_gf rfl rfl rfl hlen rfl ?_
        refine rt_ico rfl ki_4 ?_
        refine biT_ne rfl (n_eq c4) ?_
        refine rt_ald rfl l0 ?_
        refine ow_iv0 (l2 := ((1, tcl n lim a kd pl w le nu tk (Int32.ofNat 0) fp) :: (2, bcl bs) :: [(13, dcl13 P Dn v1 v2 v3 gl bo), (14, lng pn), (15, ia ri), (16, ia lf), (17, ia wa), (18, ia fo), (19, lng dn), (20, ia ha), (21, ia pa), (22, ia bl)])) rfl rfl rfl rfl hlen rfl rfl rfl ((hf H hlen).up (by decide)) rfl ?_
        refine rt_ild rfl l2 ?_
        exact ow_irt rfl rfl rfl
      · refine rt_ald rfl l0 ?_
        refine ow_gf rfl rfl rfl hlen rfl ?_
        refine bcT_eq rfl (n_eq (b := 0) e0) ?_
        exact h L l0 l1
    · have ek : ¬ Int32.ofNat (km kd) = 0 := n_ne (b := 0) (fun e => c4 ((km_is kd hkd).2.2.2.2.1.mp e)) (by have := (km_is kd hkd).2.2.2.2.2; omega) (by decide)
      rcases ln13 (zz := Int32.ofNat lines) hB hM hb hn hl (pr := pr) (pl := pl) (tk := tk) (td := td) (fp := fp) (qm := qm) t c4 d with ⟨T2, M2, D2, R2, f, g1, g2, hx, hm⟩ | ⟨tk2, td2, T2, M2, D2, R2, c2, g, hx, hm⟩
      · obtain ⟨a9, kd9, pl9, w9, le9, nu9, tk9, kk9, am9, fm9, kM9, nm9, sg9, fa9, qm9, wd9, td9, rfl, rfl, rfl, rfl, k1, k4⟩ := f
        obtain ⟨y0, y1, y2, y3, y4, y5, y6, y7, y8, y9, y10, y11, y12, y13, y14, y15, rfl⟩ := g1
        obtain ⟨y16, y17, y18, rfl⟩ := g2
        refine Or.inl ⟨pl9, tcl n lim a9 kd9 pl9 w9 le9 nu9 tk9 (Int32.ofNat kk9) (Int32.ofNat pl9), mcl (Int32.ofNat 0) (Int32.ofNat 0) n lim am9 fm9 kM9 nm9 sg9 (Int32.ofNat kk9) (Int32.ofNat pl9) wd9 td9 (pof pr), [(13, dcl13 y0 y1 y2 y3 y4 y5 y6), (14, lng y7), (15, ia y8), (16, ia y9), (17, ia y10), (18, ia y11), (19, lng y12), (20, ia y13), (21, ia y14), (22, ia y15)], [(183, ia y16), (188, lng y17), (191, zb y18)], ⟨a9, kd9, w9, le9, nu9, tk9, kk9, am9, fm9, kM9, nm9, sg9, _, _, wd9, td9, rfl, rfl, rfl, rfl, k1, k4⟩, ⟨_, _, _, _, _, _, _, _, _, _, _, _, _, _, _, _, rfl⟩, ⟨_, _, _, rfl⟩, fun H L hlen l0 l1 l2 => ?_, fun H L hlen l0 l1 => ?_⟩
        · refine rt_ild rfl l2 ?_
          refine rt_sip rfl k16_900 ?_
          refine biF_gt rfl (n_nlt (by omega) (by decide)) ?_
          refine rt_ald rfl l1 ?_
          refine ow_gf rfl rfl rfl hlen rfl ?_
          refine rt_ico rfl ki_4 ?_
          refine biF_ne rfl (n_ne c4 (by omega) (by decide)) ?_
          refine hx H L _ hlen l0 l1 l2 (fun L2 m0 m1 m2 m3 => ?_)
          refine rt_ild rfl m3 ?_
          refine bcT_eq rfl rfl ?_
          refine rt_ico rfl ki_m1 ?_
          exact ow_irt rfl rfl rfl
        · refine rt_ald rfl l0 ?_
          refine ow_gf rfl rfl rfl hlen rfl ?_
          refine bcF_eq rfl ek ?_
          refine rt_ald rfl l0 ?_
          refine ow_iv1 (l2 := ((180, mcl (Int32.ofNat 0) (Int32.ofNat 0) n lim am9 fm9 kM9 nm9 sg9 (Int32.ofNat kk9) (Int32.ofNat pl9) wd9 td9 (pof pr)) :: (181, mtl ts) :: [(183, ia y16), (188, lng y17), (191, zb y18)])) rfl rfl rfl rfl hlen rfl rfl rfl ((hm H hlen).up (by decide)) rfl ?_
          refine bcT_eq rfl rfl ?_
          refine rt_ico rfl ki_m1 ?_
          refine rt_ald rfl l0 ?_
          refine ow_gf rfl rfl rfl hlen rfl ?_
          refine ba_isub rfl ?_
          exact ow_irt rfl rfl rfl
      · have gg := g
        obtain ⟨y0, y1, y2, y3, y4, y5, y6, y7, y8, y9, y10, y11, y12, y13, y14, y15, y16, y17, y18, rfl, rfl, -⟩ := g
        obtain ⟨a2, kd2, pl2, w2, le2, nu2, fp2, nm2, sg2, qm2, wd2, rfl, rfl, t2⟩ := c2
        rcases s_end hB hM hb hn hl (po := pof pr) (pl := pl2) (tk := tk2) (td := td2) (fp := fp2) (plM := qm2) t2 with ⟨T3, M3, f, x3, m3q⟩ | ⟨T3, M3, c3, x3, m3q⟩
        · obtain ⟨a9, kd9, pl9, w9, le9, nu9, tk9, kk9, am9, fm9, kM9, nm9, sg9, fa9, qm9, wd9, td9, rfl, rfl, rfl, rfl, k1, k4⟩ := f
          refine Or.inl ⟨pl9, tcl n lim a9 kd9 pl9 w9 le9 nu9 tk9 (Int32.ofNat kk9) (Int32.ofNat pl9), mcl (Int32.ofNat 0) (Int32.ofNat 0) n lim am9 fm9 kM9 nm9 sg9 (Int32.ofNat kk9) (Int32.ofNat pl9) wd9 td9 (pof pr), [(13, dcl13 y0 y1 y2 y3 y4 y5 y6), (14, lng y7), (15, ia y8), (16, ia y9), (17, ia y10), (18, ia y11), (19, lng y12), (20, ia y13), (21, ia y14), (22, ia y15)], [(183, ia y16), (188, lng y17), (191, zb y18)], ⟨a9, kd9, w9, le9, nu9, tk9, kk9, am9, fm9, kM9, nm9, sg9, _, _, wd9, td9, rfl, rfl, rfl, rfl, k1, k4⟩, ⟨_, _, _, _, _, _, _, _, _, _, _, _, _, _, _, _, rfl⟩, ⟨_, _, _, rfl⟩, fun H L hlen l0 l1 l2 => ?_, fun H L hlen l0 l1 => ?_⟩
          · refine rt_ild rfl l2 ?_
            refine rt_sip rfl k16_900 ?_
            refine biF_gt rfl (n_nlt (by omega) (by decide)) ?_
            refine rt_ald rfl l1 ?_
            refine ow_gf rfl rfl rfl hlen rfl ?_
            refine rt_ico rfl ki_4 ?_
            refine biF_ne rfl (n_ne c4 (by omega) (by decide)) ?_
            refine hx H L _ hlen l0 l1 l2 (fun L2 m0 m1 m2 m3 => ?_)
            refine rt_ild rfl m3 ?_
            refine bcF_eq rfl (by decide) ?_
            refine rt_ald rfl m1 ?_
            refine rt_bip rfl k8_59 ?_
            refine ow_iv1 (l2 := ((1, tcl n lim a9 kd9 pl9 w9 le9 nu9 tk9 (Int32.ofNat kk9) (Int32.ofNat pl9)) :: (2, bcl bs) :: [(13, dcl13 y0 y1 y2 y3 y4 y5 y6), (14, lng y7), (15, ia y8), (16, ia y9), (17, ia y10), (18, ia y11), (19, lng y12), (20, ia y13), (21, ia y14), (22, ia y15)])) rfl rfl rfl rfl hlen rfl rfl rfl ((x3 _ (ov_hl hlen) (ov_at rfl (ov_lt hlen (by decide))) (ov_at rfl (ov_lt hlen (by decide)))).up (by decide)) rfl ?_
            refine bcT_ne rfl rfl ?_
            refine rt_ico rfl ki_m1 ?_
            exact ow_irt rfl rfl rfl
          · refine rt_ald rfl l0 ?_
            refine ow_gf rfl rfl rfl hlen rfl ?_
            refine bcF_eq rfl ek ?_
            refine rt_ald rfl l0 ?_
            refine ow_iv1 (l2 := ((180, mcl (Int32.ofNat 0) (Int32.ofNat 0) n lim a2 pl2 (km kd2) nm2 sg2 (Int32.ofNat 0) qm2 wd2 td2 (pof pr)) :: (181, mtl ts) :: [(183, ia y16), (188, lng y17), (191, zb y18)])) rfl rfl rfl rfl hlen rfl rfl rfl ((hm H hlen).up (by decide)) rfl ?_
            refine bcF_eq rfl (by decide) ?_
            refine rt_ald rfl l0 ?_
            refine ow_iv1 (l2 := ((180, mcl (Int32.ofNat 0) (Int32.ofNat 0) n lim am9 fm9 kM9 nm9 sg9 (Int32.ofNat kk9) (Int32.ofNat pl9) wd9 td9 (pof pr)) :: (181, mtl ts) :: [(183, ia y16), (188, lng y17), (191, zb y18)])) rfl rfl rfl rfl hlen rfl rfl rfl ((m3q _ (ov_hl hlen) (ov_at rfl (ov_lt hlen (by decide))) (ov_at rfl (ov_lt hlen (by decide)))).up (by decide)) rfl ?_
            refine bcT_ne rfl rfl ?_
            refine rt_ico rfl ki_m1 ?_
            refine rt_ald rfl l0 ?_
            refine ow_gf rfl rfl rfl hlen rfl ?_
            refine ba_isub rfl ?_
            exact ow_irt rfl rfl rfl
        · rcases ih (k + 1 + 1) (lines + 1) tk2 td2 T3 M3 _ _ (by omega) (by omega) c3 gg with ⟨pl9, T4, M4, D4, R4, f4, s4, r4, hx2, hm2⟩ | ⟨ln2, tk4, td4, T4, M4, D4, R4, hn2, c5, s4, hx2, hm2⟩
          · refine Or.inl ⟨pl9, T4, M4, D4, R4, f4, s4, r4, fun H L hlen l0 l1 l2 => ?_, fun H L hlen l0 l1 => ?_⟩
            · refine rt_ild rfl l2 ?_
              refine rt_sip rfl k16_900 ?_
              refine biF_gt rfl (n_nlt (by omega) (by decide)) ?_
              refine rt_ald rfl l1 ?_
              refine ow_gf rfl rfl rfl hlen rfl ?_
              refine rt_ico rfl ki_4 ?_
              refine biF_ne rfl (n_ne c4 (by omega) (by decide)) ?_
              refine hx H L _ hlen l0 l1 l2 (fun L2 m0 m1 m2 m3 => ?_)
              refine rt_ild rfl m3 ?_
              refine bcF_eq rfl (by decide) ?_
              refine rt_ald rfl m1 ?_
              refine rt_bip rfl k8_59 ?_
              refine ow_iv1 (l2 := ((1, T3) :: (2, bcl bs) :: [(13, dcl13 y0 y1 y2 y3 y4 y5 y6), (14, lng y7), (15, ia y8), (16, ia y9), (17, ia y10), (18, ia y11), (19, lng y12), (20, ia y13), (21, ia y14), (22, ia y15)])) rfl rfl rfl rfl hlen rfl rfl rfl ((x3 _ (ov_hl hlen) (ov_at rfl (ov_lt hlen (by decide))) (ov_at rfl (ov_lt hlen (by decide)))).up (by decide)) rfl ?_
              refine bcF_ne rfl (by decide) ?_
              refine rt_inc rfl m2 (by decide +kernel) ?_
              rw [in_1]
              refine RT_step (pc2 := 13) rfl (fun _ _ => rfl) ?_
              exact hx2 H _ hlen (gs_o rfl m0 rfl) (gs_o rfl m1 rfl) gs_n
            · refine rt_ald rfl l0 ?_
              refine ow_gf rfl rfl rfl hlen rfl ?_
              refine bcF_eq rfl ek ?_
              refine rt_ald rfl l0 ?_
              refine ow_iv1 (l2 := ((180, mcl (Int32.ofNat 0) (Int32.ofNat 0) n lim a2 pl2 (km kd2) nm2 sg2 (Int32.ofNat 0) qm2 wd2 td2 (pof pr)) :: (181, mtl ts) :: [(183, ia y16), (188, lng y17), (191, zb y18)])) rfl rfl rfl rfl hlen rfl rfl rfl ((hm H hlen).up (by decide)) rfl ?_
              refine bcF_eq rfl (by decide) ?_
              refine rt_ald rfl l0 ?_
              refine ow_iv1 (l2 := ((180, M3) :: (181, mtl ts) :: [(183, ia y16), (188, lng y17), (191, zb y18)])) rfl rfl rfl rfl hlen rfl rfl rfl ((m3q _ (ov_hl hlen) (ov_at rfl (ov_lt hlen (by decide))) (ov_at rfl (ov_lt hlen (by decide)))).up (by decide)) rfl ?_
              refine bcF_ne rfl (by decide) ?_
              refine rt_inc rfl l1 (by decide +kernel) ?_
              rw [in_1]
              refine RT_step (pc2 := 72) rfl (fun _ _ => rfl) ?_
              exact hm2 H _ hlen (gs_o rfl l0 rfl) gs_n
          · refine Or.inr ⟨ln2, tk4, td4, T4, M4, D4, R4, hn2, c5, s4, fun H L hlen l0 l1 l2 => ?_, fun H L q hlen l0 l1 h => ?_⟩
            · refine rt_ild rfl l2 ?_
              refine rt_sip rfl k16_900 ?_
              refine biF_gt rfl (n_nlt (by omega) (by decide)) ?_
              refine rt_ald rfl l1 ?_
              refine ow_gf rfl rfl rfl hlen rfl ?_
              refine rt_ico rfl ki_4 ?_
              refine biF_ne rfl (n_ne c4 (by omega) (by decide)) ?_
              refine hx H L _ hlen l0 l1 l2 (fun L2 m0 m1 m2 m3 => ?_)
              refine rt_ild rfl m3 ?_
              refine bcF_eq rfl (by decide) ?_
              refine rt_ald rfl m1 ?_
              refine rt_bip rfl k8_59 ?_
              refine ow_iv1 (l2 := ((1, T3) :: (2, bcl bs) :: [(13, dcl13 y0 y1 y2 y3 y4 y5 y6), (14, lng y7), (15, ia y8), (16, ia y9), (17, ia y10), (18, ia y11), (19, lng y12), (20, ia y13), (21, ia y14), (22, ia y15)])) rfl rfl rfl rfl hlen rfl rfl rfl ((x3 _ (ov_hl hlen) (ov_at rfl (ov_lt hlen (by decide))) (ov_at rfl (ov_lt hlen (by decide)))).up (by decide)) rfl ?_
              refine bcF_ne rfl (by decide) ?_
              refine rt_inc rfl m2 (by decide +kernel) ?_
              rw [in_1]
              refine RT_step (pc2 := 13) rfl (fun _ _ => rfl) ?_
              exact hx2 H _ hlen (gs_o rfl m0 rfl) (gs_o rfl m1 rfl) gs_n
            · refine rt_ald rfl l0 ?_
              refine ow_gf rfl rfl rfl hlen rfl ?_
              refine bcF_eq rfl ek ?_
              refine rt_ald rfl l0 ?_
              refine ow_iv1 (l2 := ((180, mcl (Int32.ofNat 0) (Int32.ofNat 0) n lim a2 pl2 (km kd2) nm2 sg2 (Int32.ofNat 0) qm2 wd2 td2 (pof pr)) :: (181, mtl ts) :: [(183, ia y16), (188, lng y17), (191, zb y18)])) rfl rfl rfl rfl hlen rfl rfl rfl ((hm H hlen).up (by decide)) rfl ?_
              refine bcF_eq rfl (by decide) ?_
              refine rt_ald rfl l0 ?_
              refine ow_iv1 (l2 := ((180, M3) :: (181, mtl ts) :: [(183, ia y16), (188, lng y17), (191, zb y18)])) rfl rfl rfl rfl hlen rfl rfl rfl ((m3q _ (ov_hl hlen) (ov_at rfl (ov_lt hlen (by decide))) (ov_at rfl (ov_lt hlen (by decide)))).up (by decide)) rfl ?_
              refine bcF_ne rfl (by decide) ?_
              refine rt_inc rfl l1 (by decide +kernel) ?_
              rw [in_1]
              refine RT_step (pc2 := 72) rfl (fun _ _ => rfl) ?_
              exact hm2 H _ q hlen (gs_o rfl l0 rfl) gs_n h
theorem rf13 {B : Nat → Nat} {bs ts : List Int32} {n : Nat} {pr : List Value} (hB : BY bs B) (hM : MY ts B) (hb : ∀ i, B i < 256) (hn : n ≤ 940) {lim0 a0 kd0 pl0 w0 : Nat} {le0 : Int64} {nu0 tk0 fa0 fp0 : Int32} {sz1 lim1 a1 fr1 kd1 : Nat} {p1 nu1 sg1 fa1 pl1 td1 : Int32} {wd1 : Int64} {P : Nat} {Dn : Nat} {lw : Int32} {cl : Int32} {id : Int32} {gl : Nat} {bo : Nat} {pn : List Int64} {ri : List Int32} {lf : List Int32} {wa : List Int32} {fo : List Int32} {dn : List Int64} {ha : List Int32} {pa : List Int32} {bl : List Int32} {rd : List Int32} {rn : List Int64} {on : List Int32} (l : DL pn ri lf wa fo dn ha pa bl) (lr : rd.length = 101) (ln : rn.length = 15) (lo : on.length = 3) : (∃ (pl : Nat) (T2 M2 : AE) (D2 R2 : List (Nat × AE)), FC2 n 900 (pof pr) pl T2 M2 ∧ SH13 D2 ∧ SHR R2 ∧ (∀ H : List AE, Nat.ble 204 H.length = true → FR 8 76 [.ref 13, .ref 1] (ov H ((1, tcl n lim0 a0 kd0 pl0 w0 le0 nu0 tk0 fa0 fp0) :: (2, bcl bs) :: [(13, dcl13 P Dn lw cl id gl bo), (14, lng pn), (15, ia ri), (16, ia lf), (17, ia wa), (18, ia fo), (19, lng dn), (20, ia ha), (21, ia pa), (22, ia bl)])) (some (.int (-1 : Int32)), ov (ov H ((1, tcl n lim0 a0 kd0 pl0 w0 le0 nu0 tk0 fa0 fp0) :: (2, bcl bs) :: [(13, dcl13 P Dn lw cl id gl bo), (14, lng pn), (15, ia ri), (16, ia lf), (17, ia wa), (18, ia fo), (19, lng dn), (20, ia ha), (21, ia pa), (22, ia bl)])) ((1, T2) :: (2, bcl bs) :: D2))) ∧ ∀ H : List AE, Nat.ble 204 H.length = true → FR 8 195 [.ref 180] (ov H ((180, mcl p1 (Int32.ofNat n) sz1 lim1 a1 fr1 kd1 nu1 sg1 fa1 pl1 wd1 td1 (pof pr)) :: (181, mtl ts) :: [(183, ia rd), (188, lng rn), (191, zb on)])) (some (.int ((-1 : Int32) - Int32.ofNat pl)), ov (ov H ((180, mcl p1 (Int32.ofNat n) sz1 lim1 a1 fr1 kd1 nu1 sg1 fa1 pl1 wd1 td1 (pof pr)) :: (181, mtl ts) :: [(183, ia rd), (188, lng rn), (191, zb on)])) ((180, M2) :: (181, mtl ts) :: R2))) ∨ (∃ (ln2 : Nat) (tk2 td2 : Int32) (T2 M2 : AE) (D2 R2 : List (Nat × AE)), ln2 ≤ 940 ∧ TC n 900 (pof pr) 0 tk2 td2 T2 M2 ∧ SE13 D2 R2 ∧ (∀ H : List AE, Nat.ble 204 H.length = true → FR 8 76 [.ref 13, .ref 1] (ov H ((1, tcl n lim0 a0 kd0 pl0 w0 le0 nu0 tk0 fa0 fp0) :: (2, bcl bs) :: [(13, dcl13 P Dn lw cl id gl bo), (14, lng pn), (15, ia ri), (16, ia lf), (17, ia wa), (18, ia fo), (19, lng dn), (20, ia ha), (21, ia pa), (22, ia bl)])) (some (.int (Int32.ofNat ln2)), ov (ov H ((1, tcl n lim0 a0 kd0 pl0 w0 le0 nu0 tk0 fa0 fp0) :: (2, bcl bs) :: [(13, dcl13 P Dn lw cl id gl bo), (14, lng pn), (15, ia ri), (16, ia lf), (17, ia wa), (18, ia fo), (19, lng dn), (20, ia ha), (21, ia pa), (22, ia bl)])) ((1, T2) :: (2, bcl bs) :: D2))) ∧ ∀ (H : List AE) (q : ev_R), Nat.ble 204 H.length = true → (∀ L2, ev_g L2 0 = some (.ref 180) → ev_g L2 1 = some (.int (Int32.ofNat ln2)) → RT MM 7 195 106 L2 [] (ov H ((180, M2) :: (181, mtl ts) :: R2)) q) → RT MM 7 195 0 (lv_args 0 [.ref 180]) [] (ov H ((180, mcl p1 (Int32.ofNat n) sz1 lim1 a1 fr1 kd1 nu1 sg1 fa1 pl1 wd1 td1 (pof pr)) :: (181, mtl ts) :: [(183, ia rd), (188, lng rn), (191, zb on)])) q) := by
  have d := dr_0 l lr ln lo
  have c : TC n 900 (pof pr) 0 (Int32.ofNat 0) td1 _ _ := tc_begin (B := B) (n := n) (lim := 900) (po := pof pr) (k := 0) (a := 0) (tk := Int32.ofNat 0) (td := td1) (fp := Int32.ofNat 0) (nuM := nu1) (sg := sg1) (plM := pl1) (wd := wd1) hb (Nat.zero_le _) (Nat.zero_le _)
  rcases lpn13 hB hM hb hn (by decide : (900 : Nat) ≤ 940) (n + 1) 0 0 _ _ _ _ _ _ (by omega) (by omega) c ⟨_, _, _, _, _, _, _, _, _, _, _, _, _, _, _, _, _, _, _, rfl, rfl, d⟩ with ⟨pl9, T4, M4, D4, R4, f4, s4, r4, hx2, hm2⟩ | ⟨ln2, tk4, td4, T4, M4, D4, R4, hn2, c5, s4, hx2, hm2⟩
  · have s5 := s4
    obtain ⟨y0, y1, y2, y3, y4, y5, y6, y7, y8, y9, y10, y11, y12, y13, y14, y15, rfl⟩ := s4
    have r5 := r4
    obtain ⟨y16, y17, y18, rfl⟩ := r4
    refine Or.inl ⟨pl9, T4, M4, _, _, f4, s5, r5, fun H hlen => ?_, fun H hlen => ?_⟩
    · refine FR_st rfl rfl ?_
      refine RT_step (pc2 := 1) rfl (fun _ _ => rfl) ?_
      refine ow_iv0 (l2 := ((1, tcl n lim0 a0 kd0 pl0 w0 le0 nu0 tk0 fa0 fp0) :: (2, bcl bs) :: [(13, dcl13 0 0 (Int32.ofNat 0) (Int32.ofNat 0) (Int32.ofNat 0) 0 0), (14, lng pn), (15, ia ri), (16, ia lf), (17, ia (zl wa 7 0)), (18, ia (zl fo 49 0)), (19, lng dn), (20, ia ha), (21, ia pa), (22, ia bl)])) rfl rfl rfl rfl hlen rfl rfl rfl ((x_clear13 hlen l.2.2.2.1 l.2.2.2.2.1).up (by decide)) rfl ?_
      refine RT_step (pc2 := 5) rfl (fun _ _ => rfl) ?_
      refine rt_sip rfl k16_900 ?_
      refine ow_iv0 (l2 := ((1, advC B n 900 0 (Int32.ofNat 0) (Int32.ofNat 0) (Int32.ofNat 0)) :: (2, bcl bs) :: [(13, dcl13 0 0 (Int32.ofNat 0) (Int32.ofNat 0) (Int32.ofNat 0) 0 0), (14, lng pn), (15, ia ri), (16, ia lf), (17, ia (zl wa 7 0)), (18, ia (zl fo 49 0)), (19, lng dn), (20, ia ha), (21, ia pa), (22, ia bl)])) rfl rfl rfl rfl hlen rfl rfl rfl ((x_open (n := n) (lim := 900) hB (ov_hl hlen) (ov_at rfl (ov_lt hlen (by decide))) (ov_at rfl (ov_lt hlen (by decide))) hn (by decide)).up (by decide)) rfl ?_
      refine rt_ico rfl ki_0 ?_
      refine RT_step (pc2 := 13) rfl (fun _ _ => rfl) ?_
      exact hx2 H _ hlen rfl rfl rfl
    · refine FR_st rfl rfl ?_
      exact du_s hM hlen lr lo hn (fun L2 l0 l1 => hm2 H L2 hlen l0 l1)
  · have s5 := s4
    obtain ⟨y0, y1, y2, y3, y4, y5, y6, y7, y8, y9, y10, y11, y12, y13, y14, y15, y16, y17, y18, rfl, rfl, -⟩ := s4
    refine Or.inr ⟨ln2, tk4, td4, T4, M4, _, _, hn2, c5, s5, fun H hlen => ?_, fun H q hlen h => ?_⟩
    · refine FR_st rfl rfl ?_
      refine RT_step (pc2 := 1) rfl (fun _ _ => rfl) ?_
      refine ow_iv0 (l2 := ((1, tcl n lim0 a0 kd0 pl0 w0 le0 nu0 tk0 fa0 fp0) :: (2, bcl bs) :: [(13, dcl13 0 0 (Int32.ofNat 0) (Int32.ofNat 0) (Int32.ofNat 0) 0 0), (14, lng pn), (15, ia ri), (16, ia lf), (17, ia (zl wa 7 0)), (18, ia (zl fo 49 0)), (19, lng dn), (20, ia ha), (21, ia pa), (22, ia bl)])) rfl rfl rfl rfl hlen rfl rfl rfl ((x_clear13 hlen l.2.2.2.1 l.2.2.2.2.1).up (by decide)) rfl ?_
      refine RT_step (pc2 := 5) rfl (fun _ _ => rfl) ?_
      refine rt_sip rfl k16_900 ?_
      refine ow_iv0 (l2 := ((1, advC B n 900 0 (Int32.ofNat 0) (Int32.ofNat 0) (Int32.ofNat 0)) :: (2, bcl bs) :: [(13, dcl13 0 0 (Int32.ofNat 0) (Int32.ofNat 0) (Int32.ofNat 0) 0 0), (14, lng pn), (15, ia ri), (16, ia lf), (17, ia (zl wa 7 0)), (18, ia (zl fo 49 0)), (19, lng dn), (20, ia ha), (21, ia pa), (22, ia bl)])) rfl rfl rfl rfl hlen rfl rfl rfl ((x_open (n := n) (lim := 900) hB (ov_hl hlen) (ov_at rfl (ov_lt hlen (by decide))) (ov_at rfl (ov_lt hlen (by decide))) hn (by decide)).up (by decide)) rfl ?_
      refine rt_ico rfl ki_0 ?_
      refine RT_step (pc2 := 13) rfl (fun _ _ => rfl) ?_
      exact hx2 H _ hlen rfl rfl rfl
    · exact du_s hM hlen lr lo hn (fun L2 l0 l1 => hm2 H L2 q hlen l0 l1 h)
