section
theorem k16_900 : (Int16.ofInt 900).toInt32 = Int32.ofNat 900 := by decide +kernel
/-! ===== the reference begins a DUCHY ===== -/
theorem du_r {H : List AE} (hlen : Nat.ble 204 H.length = true) {p0 p2 nu sg fa pl td : Int32} {sz lim a fr kd : Nat} {wd : Int64} {pr : List Value} {ts : List Int32} {rn : List Int64} {on : List Int32} {dd : Nat} {q : ev_R} : ∀ (r i : Nat) (arr : List Int32) (L : List (Nat × Value)), i + r = 101 → arr.length = 101 → ev_g L 0 = some (.ref 180) → ev_g L 1 = some (.int (Int32.ofNat i)) → (∀ L2, ev_g L2 0 = some (.ref 180) → RT MM dd 195 28 L2 [] (ov H ((180, mcl p0 p2 sz lim a fr kd nu sg fa pl wd td (pof pr)) :: (181, mtl ts) :: [(183, ia (zl arr r i)), (188, lng rn), (191, zb on)])) q) → RT MM dd 195 9 L [] (ov H ((180, mcl p0 p2 sz lim a fr kd nu sg fa pl wd td (pof pr)) :: (181, mtl ts) :: [(183, ia arr), (188, lng rn), (191, zb on)])) q := by
  intro r
  induction r with
  | zero =>
    intro i arr L hi hl l0 l1 h
    have hi : i = 101 := by omega
    subst hi
    refine rt_ild rfl l1 ?_
    refine rt_bip rfl k8_101 ?_
    refine biT_ge rfl (n_le (Nat.le_refl _) (by decide)) ?_
    exact h L l0
  | succ r ih =>
    intro i arr L hi hl l0 l1 h
    refine rt_ild rfl l1 ?_
    refine rt_bip rfl k8_101 ?_
    refine biF_ge rfl (n_nle (by omega) (by decide)) ?_
    refine rt_ald rfl l0 ?_
    refine ow_gf rfl rfl rfl hlen rfl ?_
    refine rt_ild rfl l1 ?_
    refine rt_ico rfl ki_0 ?_
    refine ow_iasN (l2 := ((180, mcl p0 p2 sz lim a fr kd nu sg fa pl wd td (pof pr)) :: (181, mtl ts) :: [(183, ia (arr.set i (Int32.ofNat 0))), (188, lng rn), (191, zb on)])) rfl rfl (by omega) (by omega) hlen rfl rfl ?_
    refine rt_inc rfl l1 (by decide +kernel) ?_
    rw [in_1]
    refine RT_step (pc2 := 9) rfl (fun _ _ => rfl) ?_
    exact ih (i + 1) _ _ (by omega) (by rw [List.length_set]; exact hl) (gs_o rfl l0 rfl) gs_n h
theorem du_o {H : List AE} (hlen : Nat.ble 204 H.length = true) {p0 p2 nu sg fa pl td : Int32} {sz lim a fr kd : Nat} {wd : Int64} {pr : List Value} {ts : List Int32} {rd : List Int32} {rn : List Int64} {dd : Nat} {q : ev_R} : ∀ (r i : Nat) (arr : List Int32) (L : List (Nat × Value)), i + r = 3 → arr.length = 3 → ev_g L 0 = some (.ref 180) → ev_g L 1 = some (.int (Int32.ofNat i)) → (∀ L2, ev_g L2 0 = some (.ref 180) → RT MM dd 195 48 L2 [] (ov H ((180, mcl p0 p2 sz lim a fr kd nu sg fa pl wd td (pof pr)) :: (181, mtl ts) :: [(183, ia rd), (188, lng rn), (191, zb (zl arr r i))])) q) → RT MM dd 195 30 L [] (ov H ((180, mcl p0 p2 sz lim a fr kd nu sg fa pl wd td (pof pr)) :: (181, mtl ts) :: [(183, ia rd), (188, lng rn), (191, zb arr)])) q := by
  intro r
  induction r with
  | zero =>
    intro i arr L hi hl l0 l1 h
    have hi : i = 3 := by omega
    subst hi
    refine rt_ild rfl l1 ?_
    refine rt_ico rfl ki_3 ?_
    refine biT_ge rfl (n_le (Nat.le_refl _) (by decide)) ?_
    exact h L l0
  | succ r ih =>
    intro i arr L hi hl l0 l1 h
    refine rt_ild rfl l1 ?_
    refine rt_ico rfl ki_3 ?_
    refine biF_ge rfl (n_nle (by omega) (by decide)) ?_
    refine rt_ald rfl l0 ?_
    refine ow_gf rfl rfl rfl hlen rfl ?_
    refine rt_ild rfl l1 ?_
    refine rt_ico rfl ki_0 ?_
    refine ow_zasN (l2 := ((180, mcl p0 p2 sz lim a fr kd nu sg fa pl wd td (pof pr)) :: (181, mtl ts) :: [(183, ia rd), (188, lng rn), (191, zb (arr.set i (Int32.ofNat 0)))])) rfl rfl (by omega) (by omega) (by decide) hlen rfl rfl ?_
    refine rt_inc rfl l1 (by decide +kernel) ?_
    rw [in_1]
    refine RT_step (pc2 := 30) rfl (fun _ _ => rfl) ?_
    exact ih (i + 1) _ _ (by omega) (by rw [List.length_set]; exact hl) (gs_o rfl l0 rfl) gs_n h
theorem du_s {H : List AE} {B : Nat → Nat} {ts : List Int32} (hM : MY ts B) (hlen : Nat.ble 204 H.length = true) {n sz0 lim0 a0 fr0 kd0 : Nat} {p0 nu0 sg0 fa0 pl0 td0 : Int32} {wd0 : Int64} {pr : List Value} {rd : List Int32} {rn : List Int64} {on : List Int32} (lr : rd.length = 101) (lo : on.length = 3) (hn : n ≤ 940) {q : ev_R} (h : ∀ L2, ev_g L2 0 = some (.ref 180) → ev_g L2 1 = some (.int (Int32.ofNat 0)) → RT MM 7 195 72 L2 [] (ov H ((180, mcl (Int32.ofNat 0) (Int32.ofNat 0) n 900 (goV B n 900 0 nu0 sg0 wd0).1 (goV B n 900 0 nu0 sg0 wd0).2.1 (goV B n 900 0 nu0 sg0 wd0).2.2.1 (goV B n 900 0 nu0 sg0 wd0).2.2.2.1 (goV B n 900 0 nu0 sg0 wd0).2.2.2.2.1 (Int32.ofNat 0) pl0 (goV B n 900 0 nu0 sg0 wd0).2.2.2.2.2 td0 (pof pr)) :: (181, mtl ts) :: [(183, ia ((((zl rd 101 0).set 2 (Int32.ofNat 10)).set 3 (Int32.ofNat 3)).set 4 (Int32.ofNat 5))), (188, lng rn), (191, zb (zl on 3 0))])) q) : RT MM 7 195 0 (lv_args 0 [.ref 180]) [] (ov H ((180, mcl p0 (Int32.ofNat n) sz0 lim0 a0 fr0 kd0 nu0 sg0 fa0 pl0 wd0 td0 (pof pr)) :: (181, mtl ts) :: [(183, ia rd), (188, lng rn), (191, zb on)])) q := by
  refine RT_step (pc2 := 1) rfl (fun _ _ => rfl) ?_
  refine rt_sip rfl k16_900 ?_
  refine ow_iv0 (l2 := ((180, mcl (Int32.ofNat 0) (Int32.ofNat 0) n 900 (goV B n 900 0 nu0 sg0 wd0).1 (goV B n 900 0 nu0 sg0 wd0).2.1 (goV B n 900 0 nu0 sg0 wd0).2.2.1 (goV B n 900 0 nu0 sg0 wd0).2.2.2.1 (goV B n 900 0 nu0 sg0 wd0).2.2.2.2.1 (Int32.ofNat 0) pl0 (goV B n 900 0 nu0 sg0 wd0).2.2.2.2.2 td0 (pof pr)) :: (181, mtl ts) :: [(183, ia rd), (188, lng rn), (191, zb on)])) rfl rfl rfl rfl hlen rfl rfl rfl ((m_begin (n := n) (sz0 := sz0) (lim0 := lim0) (a0 := a0) (fr0 := fr0) (kd0 := kd0) (p0 := p0) (nu0 := nu0) (sg0 := sg0) (fa0 := fa0) (pl0 := pl0) (td0 := td0) (wd0 := wd0) (po := pof pr) (lim := 900) hM (ov_hl hlen) (ov_at rfl (ov_lt hlen (by decide))) (ov_at rfl (ov_lt hlen (by decide))) hn (by decide)).up (by decide)) rfl ?_
  refine rt_ico rfl ki_0 ?_
  refine RT_step (pc2 := 9) rfl (fun _ _ => rfl) ?_
  refine du_r hlen 101 0 rd _ rfl lr rfl rfl (fun L2 l0 => ?_)
  refine rt_ico rfl ki_0 ?_
  refine rt_ist rfl (by decide +kernel) ?_
  refine du_o hlen 3 0 on _ rfl lo (gs_o rfl l0 rfl) gs_n (fun L3 l3 => ?_)
  refine rt_ald rfl l3 ?_
  refine ow_gf rfl rfl rfl hlen rfl ?_
  refine rt_ico rfl ki_2 ?_
  refine rt_bip rfl k8_10 ?_
  refine ow_iasN rfl rfl (by simp only [List.length_set, zl_len]; omega) (by omega) hlen rfl rfl ?_
  refine rt_ald rfl l3 ?_
  refine ow_gf rfl rfl rfl hlen rfl ?_
  refine rt_ico rfl ki_3 ?_
  refine rt_ico rfl ki_3 ?_
  refine ow_iasN rfl rfl (by simp only [List.length_set, zl_len]; omega) (by omega) hlen rfl rfl ?_
  refine rt_ald rfl l3 ?_
  refine ow_gf rfl rfl rfl hlen rfl ?_
  refine rt_ico rfl ki_4 ?_
  refine rt_ico rfl ki_5 ?_
  refine ow_iasN rfl rfl (by simp only [List.length_set, zl_len]; omega) (by omega) hlen rfl rfl ?_
  refine rt_ico rfl ki_0 ?_
  refine rt_ist rfl (by decide +kernel) ?_
  exact h _ (gs_o rfl l3 rfl) gs_n
theorem dr_0 {pn : List Int64} {ri lf wa fo : List Int32} {dn : List Int64} {ha pa bl : List Int32} {rd : List Int32} {rn : List Int64} {on : List Int32} (l : DL pn ri lf wa fo dn ha pa bl) (lr : rd.length = 101) (ln : rn.length = 15) (lo : on.length = 3) : DR 0 0 (Int32.ofNat 0) (Int32.ofNat 0) (Int32.ofNat 0) 0 0 pn ri lf (zl wa 7 0) (zl fo 49 0) dn ha pa bl ((((zl rd 101 0).set 2 (Int32.ofNat 10)).set 3 (Int32.ofNat 3)).set 4 (Int32.ofNat 5)) rn (zl on 3 0) := by
  obtain ⟨l1, l2, l3, l4, l5, l6, l7, l8, l9⟩ := l
  have k : ∀ j, j ≠ 2 → j ≠ 3 → j ≠ 4 → j < 101 → ((((zl rd 101 0).set 2 (Int32.ofNat 10)).set 3 (Int32.ofNat 3)).set 4 (Int32.ofNat 5))[j]? = some (Int32.ofNat 0) := fun j e2 e3 e4 hj => by
    rw [List.getElem?_set_ne (fun e => e4 e.symm), List.getElem?_set_ne (fun e => e3 e.symm), List.getElem?_set_ne (fun e => e2 e.symm)]
    exact zl_at (Nat.zero_le _) (by omega) (by omega)
  refine ⟨by decide, by decide, ⟨l1, l2, l3, by rw [zl_len]; exact l4, by rw [zl_len]; exact l5, l6, l7, l8, l9⟩, by simp only [List.length_set, zl_len]; exact lr, ln, by rw [zl_len]; exact lo, ⟨fun i hi => absurd hi (Nat.not_lt_zero i), fun i hi => absurd hi (Nat.not_lt_zero i)⟩, ⟨k 0 (by decide) (by decide) (by decide) (by decide), k 1 (by decide) (by decide) (by decide) (by decide), k 19 (by decide) (by decide) (by decide) (by decide), by decide, k 44 (by decide) (by decide) (by decide) (by decide), by decide, fun i hi => absurd hi (Nat.not_lt_zero i), fun i hi => absurd hi (Nat.not_lt_zero i), fun i hi => ?_⟩, ⟨fun _ => 0, fun _ => 0, fun q hq => ⟨zl_at (Nat.zero_le _) (by omega) (by omega), (show (0 : Nat) < 128 by decide), k _ (by omega) (by omega) (by omega) (by omega), (show (0 : Nat) < 2 ^ 0 by decide)⟩, fun p q _ _ => (Nat.zero_testBit p).trans (Nat.zero_testBit q).symm⟩, Or.inl ⟨rfl, ?_, zl_at (by decide) (by decide) (by omega)⟩, Or.inl ⟨rfl, ?_, zl_at (by decide) (by decide) (by omega)⟩, Or.inl ⟨rfl, ?_, zl_at (by decide) (by decide) (by omega)⟩⟩
  · rw [k _ (by omega) (by omega) (by omega) (by omega)]
    exact zl_at (Nat.zero_le _) (by omega) (by omega)
  · rw [List.getElem?_set_ne (by decide), List.getElem?_set_ne (by decide), List.getElem?_set_self (by rw [zl_len]; omega)]
  · rw [List.getElem?_set_ne (by decide), List.getElem?_set_self (by rw [List.length_set, zl_len]; omega)]
  · rw [List.getElem?_set_self (by rw [List.length_set, List.length_set, zl_len]; omega)]
end
section
/-! ===== all LINES (cells from 3 on) ===== -/
theorem lpn3 {B : Nat → Nat} {bs ts : List Int32} {n lim : Nat} {pr : List Value} (hB : BY bs B) (hM : MY ts B) (hb : ∀ i, B i < 256) (hn : n ≤ 940) (hl : lim ≤ 940) : ∀ (r k lines : Nat) (tk td : Int32) (T M : AE) (D R : List (Nat × AE)), n < k + r → 2 * lines ≤ k → TC n lim (pof pr) k tk td T M → SD3 D R → (∃ (pl : Nat) (T2 M2 : AE) (D2 R2 : List (Nat × AE)), FC2 n lim (pof pr) pl T2 M2 ∧ SH3 D2 ∧ SHR R2 ∧ (∀ (H : List AE) (L : List (Nat × Value)), Nat.ble 204 H.length = true → ev_g L 0 = some (.ref 3) → ev_g L 1 = some (.ref 1) → ev_g L 2 = some (.int (Int32.ofNat lines)) → RT MM 7 76 13 L [] (ov H ((1, T) :: (2, bcl bs) :: D)) (some (.int (-1 : Int32)), (ov H ((1, T2) :: (2, bcl bs) :: D2)))) ∧ ∀ (H : List AE) (L : List (Nat × Value)), Nat.ble 204 H.length = true → ev_g L 0 = some (.ref 180) → ev_g L 1 = some (.int (Int32.ofNat lines)) → RT MM 7 195 72 L [] (ov H ((180, M) :: (181, mtl ts) :: R)) (some (.int ((-1 : Int32) - Int32.ofNat pl)), (ov H ((180, M2) :: (181, mtl ts) :: R2)))) ∨ (∃ (ln2 : Nat) (tk2 td2 : Int32) (T2 M2 : AE) (D2 R2 : List (Nat × AE)), ln2 ≤ 940 ∧ TC n lim (pof pr) 0 tk2 td2 T2 M2 ∧ SE3 D2 R2 ∧ (∀ (H : List AE) (L : List (Nat × Value)), Nat.ble 204 H.length = true → ev_g L 0 = some (.ref 3) → ev_g L 1 = some (.ref 1) → ev_g L 2 = some (.int (Int32.ofNat lines)) → RT MM 7 76 13 L [] (ov H ((1, T) :: (2, bcl bs) :: D)) (some (.int (Int32.ofNat ln2)), (ov H ((1, T2) :: (2, bcl bs) :: D2)))) ∧ ∀ (H : List AE) (L : List (Nat × Value)) (q : ev_R), Nat.ble 204 H.length = true → ev_g L 0 = some (.ref 180) → ev_g L 1 = some (.int (Int32.ofNat lines)) → (∀ L2, ev_g L2 0 = some (.ref 180) → ev_g L2 1 = some (.int (Int32.ofNat ln2)) → RT MM 7 195 106 L2 [] (ov H ((180, M2) :: (181, mtl ts) :: R2)) q) → RT MM 7 195 72 L [] (ov H ((180, M) :: (181, mtl ts) :: R)) q) := by
  intro r
  induction r with
  | zero =>
    intro k lines tk td T M D R hr hk c g
    obtain ⟨a, kd, pl, w, le, nu, fp, nm, sg, qm, wd, rfl, rfl, t⟩ := c
    have h1 := t.1
    have h2 := t.2.1
    omega
  | succ r ih =>
    intro k lines tk td T M D R hr hk c g
    obtain ⟨a, kd, pl, w, le, nu, fp, nm, sg, qm, wd, rfl, rfl, t⟩ := c
    obtain ⟨P, Dn, lw, cl, id, gl, bo, pn, ri, lf, wa, fo, dn, ha, pa, bl, rd, rn, on, rfl, rfl, d⟩ := g
    have hlin : lines ≤ 470 := by have h1 := t.1; have h2 := t.2.1; omega
    have hkd := t.2.2.2.1
    by_cases c4 : kd = 4
    · obtain ⟨hP, hD, ⟨l1, l2, l3, l4, l5, l6, l7, l8, l9⟩, lr, ln, lo, hN, hV, hW, o1, o2, o3⟩ := d
      obtain ⟨v1, v2, v3, g1, g2, g3, hf⟩ := x_fill3 (bs := bs) (T := tcl n lim a kd pl w le nu tk (Int32.ofNat 0) fp) (P := P) (Dn := Dn) (lw := lw) (cl := cl) (id := id) (gl := gl) (bo := bo) (pn := pn) (ri := ri) (lf := lf) (wa := wa) (fo := fo) (dn := dn) (ha := ha) (pa := pa) (bl := bl) o1 o2 o3
      have e0 : km kd = 0 := (km_is kd hkd).2.2.2.2.1.mpr c4
      refine Or.inr ⟨lines, tk, td, tcl n lim a kd pl w le nu tk (Int32.ofNat 0) fp, mcl (Int32.ofNat 0) (Int32.ofNat 0) n lim a pl (km kd) nm sg (Int32.ofNat 0) qm wd td (pof pr), [(3, dcl3 P Dn v1 v2 v3 gl bo), (4, lng pn), (5, ia ri), (6, ia lf), (7, ia wa), (8, ia fo), (9, lng dn), (10, ia ha), (11, ia pa), (12, ia bl)], [(183, ia rd), (188, lng rn), (191, zb on)], by omega, tc_mono (tf_td t) (Nat.zero_le _), ⟨_, _, _, _, _, _, _, _, _, _, _, _, _, _, _, _, _, _, _, rfl, rfl, lr, ln, hP, hD, ⟨l1, l2, l3, l4, l5, l6, l7, l8, l9⟩, hN, hV, hW, g1, g2, g3⟩, fun H L hlen l0 l1 l2 => ?_, fun H L q hlen l0 l1 h => ?_⟩
      · refine rt_ild rfl l2 ?_
        refine rt_sip rfl k16_900 ?_
        refine biF_gt rfl (n_nlt (by omega) (by decide)) ?_
        refine rt_ald rfl l1 ?_
        refine ow_gf rfl rfl rfl hlen rfl ?_
        refine rt_ico rfl ki_4 ?_
        refine biT_ne rfl (n_eq c4) ?_
        refine rt_ald rfl l0 ?_
        refine ow_iv0 (l2 := ((1, tcl n lim a kd pl w le nu tk (Int32.ofNat 0) fp) :: (2, bcl bs) :: [(3, dcl3 P Dn v1 v2 v3 gl bo), (4, lng pn), (5, ia ri), (6, ia lf), (7, ia wa), (8, ia fo), (9, lng dn), (10, ia ha), (11, ia pa), (12, ia bl)])) rfl rfl rfl rfl hlen rfl rfl rfl ((hf H hlen).up (by decide)) rfl ?_
        refine rt_ild rfl l2 ?_
        exact ow_irt rfl rfl rfl
      · refine rt_ald rfl l0 ?_
        refine ow_gf rfl rfl rfl hlen rfl ?_
        refine bcT_eq rfl (n_eq (b := 0) e0) ?_
        exact h L l0 l1
    · have ek : ¬ Int32.ofNat (km kd) = 0 := n_ne (b := 0) (fun e => c4 ((km_is kd hkd).2.2.2.2.1.mp e)) (by have := (km_is kd hkd).2.2.2.2.2; omega) (by decide)
      rcases ln3 (zz := Int32.ofNat lines) hB hM hb hn hl (pr := pr) (pl := pl) (tk := tk) (td := td) (fp := fp) (qm := qm) t c4 d with ⟨T2, M2, D2, R2, f, g1, g2, hx, hm⟩ | ⟨tk2, td2, T2, M2, D2, R2, c2, g, hx, hm⟩
      · obtain ⟨a9, kd9, pl9, w9, le9, nu9, tk9, kk9, am9, fm9, kM9, nm9, sg9, fa9, qm9, wd9, td9, rfl, rfl, rfl, rfl, k1, k4⟩ := f
        obtain ⟨y0, y1, y2, y3, y4, y5, y6, y7, y8, y9, y10, y11, y12, y13, y14, y15, rfl⟩ := g1
        obtain ⟨y16, y17, y18, rfl⟩ := g2
        refine Or.inl ⟨pl9, tcl n lim a9 kd9 pl9 w9 le9 nu9 tk9 (Int32.ofNat kk9) (Int32.ofNat pl9), mcl (Int32.ofNat 0) (Int32.ofNat 0) n lim am9 fm9 kM9 nm9 sg9 (Int32.ofNat kk9) (Int32.ofNat pl9) wd9 td9 (pof pr), [(3, dcl3 y0 y1 y2 y3 y4 y5 y6), (4, lng y7), (5, ia y8), (6, ia y9), (7, ia y10), (8, ia y11), (9, lng y12), (10, ia y13), (11, ia y14), (12, ia y15)], [(183, ia y16), (188, lng y17), (191, zb y18)], ⟨a9, kd9, w9, le9, nu9, tk9, kk9, am9, fm9, kM9, nm9, sg9, _, _, wd9, td9, rfl, rfl, rfl, rfl, k1, k4⟩, ⟨_, _, _, _, _, _, _, _, _, _, _, _, _, _, _, _, rfl⟩, ⟨_, _, _, rfl⟩, fun H L hlen l0 l1 l2 => ?_, fun H L hlen l0 l1 => ?_⟩
        · refine rt_ild rfl l2 ?_
          refine rt_sip rfl k16_900 ?_
          refine biF_gt rfl (n_nlt (by omega) (by decide)) ?_
          refine rt_ald rfl l1 ?_
          refine ow_gf rfl rfl rfl hlen rfl ?_
          refine rt_ico rfl ki_4 ?_
          refine biF_ne rfl (n_ne c4 (by omega) (by decide)) ?_
          refine hx H L _ hlen l0 l1 l2 (fun L2 m0 m1 m2 m3 => ?_)
          refine rt_ild rfl m3 ?_
          refine bcT_eq rfl rfl ?_
          refine rt_ico rfl ki_m1 ?_
          exact ow_irt rfl rfl rfl
        · refine rt_ald rfl l0 ?_
          refine ow_gf rfl rfl rfl hlen rfl ?_
          refine bcF_eq rfl ek ?_
          refine rt_ald rfl l0 ?_
          refine ow_iv1 (l2 := ((180, mcl (Int32.ofNat 0) (Int32.ofNat 0) n lim am9 fm9 kM9 nm9 sg9 (Int32.ofNat kk9) (Int32.ofNat pl9) wd9 td9 (pof pr)) :: (181, mtl ts) :: [(183, ia y16), (188, lng y17), (191, zb y18)])) rfl rfl rfl rfl hlen rfl rfl rfl ((hm H hlen).up (by decide)) rfl ?_
          refine bcT_eq rfl rfl ?_
          refine rt_ico rfl ki_m1 ?_
          refine rt_ald rfl l0 ?_
          refine ow_gf rfl rfl rfl hlen rfl ?_
          refine ba_isub rfl ?_
          exact ow_irt rfl rfl rfl
      · have gg := g
        obtain ⟨y0, y1, y2, y3, y4, y5, y6, y7, y8, y9, y10, y11, y12, y13, y14, y15, y16, y17, y18, rfl, rfl, -⟩ := g
        obtain ⟨a2, kd2, pl2, w2, le2, nu2, fp2, nm2, sg2, qm2, wd2, rfl, rfl, t2⟩ := c2
        rcases s_end hB hM hb hn hl (po := pof pr) (pl := pl2) (tk := tk2) (td := td2) (fp := fp2) (plM := qm2) t2 with ⟨T3, M3, f, x3, m3q⟩ | ⟨T3, M3, c3, x3, m3q⟩
        · obtain ⟨a9, kd9, pl9, w9, le9, nu9, tk9, kk9, am9, fm9, kM9, nm9, sg9, fa9, qm9, wd9, td9, rfl, rfl, rfl, rfl, k1, k4⟩ := f
          refine Or.inl ⟨pl9, tcl n lim a9 kd9 pl9 w9 le9 nu9 tk9 (Int32.ofNat kk9) (Int32.ofNat pl9), mcl (Int32.ofNat 0) (Int32.ofNat 0) n lim am9 fm9 kM9 nm9 sg9 (Int32.ofNat kk9) (Int32.ofNat pl9) wd9 td9 (pof pr), [(3, dcl3 y0 y1 y2 y3 y4 y5 y6), (4, lng y7), (5, ia y8), (6, ia y9), (7, ia y10), (8, ia y11), (9, lng y12), (10, ia y13), (11, ia y14), (12, ia y15)], [(183, ia y16), (188, lng y17), (191, zb y18)], ⟨a9, kd9, w9, le9, nu9, tk9, kk9, am9, fm9, kM9, nm9, sg9, _, _, wd9, td9, rfl, rfl, rfl, rfl, k1, k4⟩, ⟨_, _, _, _, _, _, _, _, _, _, _, _, _, _, _, _, rfl⟩, ⟨_, _, _, rfl⟩, fun H L hlen l0 l1 l2 => ?_, fun H L hlen l0 l1 => ?_⟩
          · refine rt_ild rfl l2 ?_
            refine rt_sip rfl k16_900 ?_
            refine biF_gt rfl (n_nlt (by omega) (by decide)) ?_
            refine rt_ald rfl l1 ?_
            refine ow_gf rfl rfl rfl hlen rfl ?_
            refine rt_ico rfl ki_4 ?_
            refine biF_ne rfl (n_ne c4 (by omega) (by decide)) ?_
            refine hx H L _ hlen l0 l1 l2 (fun L2 m0 m1 m2 m3 => ?_)
            refine rt_ild rfl m3 ?_
            refine bcF_eq rfl (by decide) ?_
            refine rt_ald rfl m1 ?_
            refine rt_bip rfl k8_59 ?_
            refine ow_iv1 (l2 := ((1, tcl n lim a9 kd9 pl9 w9 le9 nu9 tk9 (Int32.ofNat kk9) (Int32.ofNat pl9)) :: (2, bcl bs) :: [(3, dcl3 y0 y1 y2 y3 y4 y5 y6), (4, lng y7), (5, ia y8), (6, ia y9), (7, ia y10), (8, ia y11), (9, lng y12), (10, ia y13), (11, ia y14), (12, ia y15)])) rfl rfl rfl rfl hlen rfl rfl rfl ((x3 _ (ov_hl hlen) (ov_at rfl (ov_lt hlen (by decide))) (ov_at rfl (ov_lt hlen (by decide)))).up (by decide)) rfl ?_
            refine bcT_ne rfl rfl ?_
            refine rt_ico rfl ki_m1 ?_
            exact ow_irt rfl rfl rfl
          · refine rt_ald rfl l0 ?_
            refine ow_gf rfl rfl rfl hlen rfl ?_
            refine bcF_eq rfl ek ?_
            refine rt_ald rfl l0 ?_
            refine ow_iv1 (l2 := ((180, mcl (Int32.ofNat 0) (Int32.ofNat 0) n lim a2 pl2 (km kd2) nm2 sg2 (Int32.ofNat 0) qm2 wd2 td2 (pof pr)) :: (181, mtl ts) :: [(183, ia y16), (188, lng y17), (191, zb y18)])) rfl rfl rfl rfl hlen rfl rfl rfl ((hm H hlen).up (by decide)) rfl ?_
            refine bcF_eq rfl (by decide) ?_
            refine rt_ald rfl l0 ?_
            refine ow_iv1 (l2 := ((180, mcl (Int32.ofNat 0) (Int32.ofNat 0) n lim am9 fm9 kM9 nm9 sg9 (Int32.ofNat kk9) (Int32.ofNat pl9) wd9 td9 (pof pr)) :: (181, mtl ts) :: [(183, ia y16), (188, lng y17), (191, zb y18)])) rfl rfl rfl rfl hlen rfl rfl rfl ((m3q _ (ov_hl hlen) (ov_at rfl (ov_lt hlen (by decide))) (ov_at rfl (ov_lt hlen (by decide)))).up (by decide)) rfl ?_
            refine bcT_ne rfl rfl ?_
            refine rt_ico rfl ki_m1 ?_
            refine rt_ald rfl l0 ?_
            refine ow_gf rfl rfl rfl hlen rfl ?_
            refine ba_isub rfl ?_
            exact ow_irt rfl rfl rfl
        · rcases ih (k + 1 + 1) (lines + 1) tk2 td2 T3 M3 _ _ (by omega) (by omega) c3 gg with ⟨pl9, T4, M4, D4, R4, f4, s4, r4, hx2, hm2⟩ | ⟨ln2, tk4, td4, T4, M4, D4, R4, hn2, c5, s4, hx2, hm2⟩
          · refine Or.inl ⟨pl9, T4, M4, D4, R4, f4, s4, r4, fun H L hlen l0 l1 l2 => ?_, fun H L hlen l0 l1 => ?_⟩
            · refine rt_ild rfl l2 ?_
              refine rt_sip rfl k16_900 ?_
              refine biF_gt rfl (n_nlt (by omega) (by decide)) ?_
              refine rt_ald rfl l1 ?_
              refine ow_gf rfl rfl rfl hlen rfl ?_
              refine rt_ico rfl ki_4 ?_
              refine biF_ne rfl (n_ne c4 (by omega) (by decide)) ?_
              refine hx H L _ hlen l0 l1 l2 (fun L2 m0 m1 m2 m3 => ?_)
              refine rt_ild rfl m3 ?_
              refine bcF_eq rfl (by decide) ?_
              refine rt_ald rfl m1 ?_
              refine rt_bip rfl k8_59 ?_
              refine ow_iv1 (l2 := ((1, T3) :: (2, bcl bs) :: [(3, dcl3 y0 y1 y2 y3 y4 y5 y6), (4, lng y7), (5, ia y8), (6, ia y9), (7, ia y10), (8, ia y11), (9, lng y12), (10, ia y13), (11, ia y14), (12, ia y15)])) rfl rfl rfl rfl hlen rfl rfl rfl ((x3 _ (ov_hl hlen) (ov_at rfl (ov_lt hlen (by decide))) (ov_at rfl (ov_lt hlen (by decide)))).up (by decide)) rfl ?_
              refine bcF_ne rfl (by decide) ?_
              refine rt_inc rfl m2 (by decide +kernel) ?_
              rw [in_1]
              refine RT_step (pc2 := 13) rfl (fun _ _ => rfl) ?_
              exact hx2 H _ hlen (gs_o rfl m0 rfl) (gs_o rfl m1 rfl) gs_n
            · refine rt_ald rfl l0 ?_
              refine ow_gf rfl rfl rfl hlen rfl ?_
              refine bcF_eq rfl ek ?_
              refine rt_ald rfl l0 ?_
              refine ow_iv1 (l2 := ((180, mcl (Int32.ofNat 0) (Int32.ofNat 0) n lim a2 pl2 (km kd2) nm2 sg2 (Int32.ofNat 0) qm2 wd2 td2 (pof pr)) :: (181, mtl ts) :: [(183, ia y16), (188, lng y17), (191, zb y18)])) rfl rfl rfl rfl hlen rfl rfl rfl ((hm H hlen).up (by decide)) rfl ?_
              refine bcF_eq rfl (by decide) ?_
              refine rt_ald rfl l0 ?_
              refine ow_iv1 (l2 := ((180, M3) :: (181, mtl ts) :: [(183, ia y16), (188, lng y17), (191, zb y18)])) rfl rfl rfl rfl hlen rfl rfl rfl ((m3q _ (ov_hl hlen) (ov_at rfl (ov_lt hlen (by decide))) (ov_at rfl (ov_lt hlen (by decide)))).up (by decide)) rfl ?_
              refine bcF_ne rfl (by decide) ?_
              refine rt_inc rfl l1 (by decide +kernel) ?_
              rw [in_1]
              refine RT_step (pc2 := 72) rfl (fun _ _ => rfl) ?_
              exact hm2 H _ hlen (gs_o rfl l0 rfl) gs_n
          · refine Or.inr ⟨ln2, tk4, td4, T4, M4, D4, R4, hn2, c5, s4, fun H L hlen l0 l1 l2 => ?_, fun H L q hlen l0 l1 h => ?_⟩
            · refine rt_ild rfl l2 ?_
              refine rt_sip rfl k16_900 ?_
              refine biF_gt rfl (n_nlt (by omega) (by decide)) ?_
              refine rt_ald rfl l1 ?_
              refine ow_gf rfl rfl rfl hlen rfl ?_
              refine rt_ico rfl ki_4 ?_
              refine biF_ne rfl (n_ne c4 (by omega) (by decide)) ?_
              refine hx H L _ hlen l0 l1 l2 (fun L2 m0 m1 m2 m3 => ?_)
              refine rt_ild rfl m3 ?_
              refine bcF_eq rfl (by decide) ?_
              refine rt_ald rfl m1 ?_
              refine rt_bip rfl k8_59 ?_
              refine ow_iv1 (l2 := ((1, T3) :: (2, bcl bs) :: [(3, dcl3 y0 y1 y2 y3 y4 y5 y6), (4, lng y7), (5, ia y8), (6, ia y9), (7, ia y10), (8, ia y11), (9, lng y12), (10, ia y13), (11, ia y14), (12, ia y15)])) rfl rfl rfl rfl hlen rfl rfl rfl ((x3 _ (ov_hl hlen) (ov_at rfl (ov_lt hlen (by decide))) (ov_at rfl (ov_lt hlen (by decide)))).up (by decide)) rfl ?_
              refine bcF_ne rfl (by decide) ?_
              refine rt_inc rfl m2 (by decide +kernel) ?_
              rw [in_1]
              refine RT_step (pc2 := 13) rfl (fun _ _ => rfl) ?_
              exact hx2 H _ hlen (gs_o rfl m0 rfl) (gs_o rfl m1 rfl) gs_n
            · refine rt_ald rfl l0 ?_
              refine ow_gf rfl rfl rfl hlen rfl ?_
              refine bcF_eq rfl ek ?_
              refine rt_ald rfl l0 ?_
              refine ow_iv1 (l2 := ((180, mcl (Int32.ofNat 0) (Int32.ofNat 0) n lim a2 pl2 (km kd2) nm2 sg2 (Int32.ofNat 0) qm2 wd2 td2 (pof pr)) :: (181, mtl ts) :: [(183, ia y16), (188, lng y17), (191, zb y18)])) rfl rfl rfl rfl hlen rfl rfl rfl ((hm H hlen).up (by decide)) rfl ?_
              refine bcF_eq rfl (by decide) ?_
              refine rt_ald rfl l0 ?_
              refine ow_iv1 (l2 := ((180, M3) :: (181, mtl ts) :: [(183, ia y16), (188, lng y17), (191, zb y18)])) rfl rfl rfl rfl hlen rfl rfl rfl ((m3q _ (ov_hl hlen) (ov_at rfl (ov_lt hlen (by decide))) (ov_at rfl (ov_lt hlen (by decide)))).up (by decide)) rfl ?_
              refine bcF_ne rfl (by decide) ?_
              refine rt_inc rfl l1 (by decide +kernel) ?_
              rw [in_1]
              refine RT_step (pc2 := 72) rfl (fun _ _ => rfl) ?_
              exact hm2 H _ q hlen (gs_o rfl l0 rfl) gs_n h
theorem rf3 {B : Nat → Nat} {bs ts : List Int32} {n : Nat} {pr : List Value} (hB : BY bs B) (hM : MY ts B) (hb : ∀ i, B i < 256) (hn : n ≤ 940) {lim0 a0 kd0 pl0 w0 : Nat} {le0 : Int64} {nu0 tk0 fa0 fp0 : Int32} {sz1 lim1 a1 fr1 kd1 : Nat} {p1 nu1 sg1 fa1 pl1 td1 : Int32} {wd1 : Int64} {P : Nat} {Dn : Nat} {lw : Int32} {cl : Int32} {id : Int32} {gl : Nat} {bo : Nat} {pn : List Int64} {ri : List Int32} {lf : List Int32} {wa : List Int32} {fo : List Int32} {dn : List Int64} {ha : List Int32} {pa : List Int32} {bl : List Int32} {rd : List Int32} {rn : List Int64} {on : List Int32} (l : DL pn ri lf wa fo dn ha pa bl) (lr : rd.length = 101) (ln : rn.length = 15) (lo : on.length = 3) : (∃ (pl : Nat) (T2 M2 : AE) (D2 R2 : List (Nat × AE)), FC2 n 900 (pof pr) pl T2 M2 ∧ SH3 D2 ∧ SHR R2 ∧ (∀ H : List AE, Nat.ble 204 H.length = true → FR 8 76 [.ref 3, .ref 1] (ov H ((1, tcl n lim0 a0 kd0 pl0 w0 le0 nu0 tk0 fa0 fp0) :: (2, bcl bs) :: [(3, dcl3 P Dn lw cl id gl bo), (4, lng pn), (5, ia ri), (6, ia lf), (7, ia wa), (8, ia fo), (9, lng dn), (10, ia ha), (11, ia pa), (12, ia bl)])) (some (.int (-1 : Int32)), ov (ov H ((1, tcl n lim0 a0 kd0 pl0 w0 le0 nu0 tk0 fa0 fp0) :: (2, bcl bs) :: [(3, dcl3 P Dn lw cl id gl bo), (4, lng pn), (5, ia ri), (6, ia lf), (7, ia wa), (8, ia fo), (9, lng dn), (10, ia ha), (11, ia pa), (12, ia bl)])) ((1, T2) :: (2, bcl bs) :: D2))) ∧ ∀ H : List AE, Nat.ble 204 H.length = true → FR 8 195 [.ref 180] (ov H ((180, mcl p1 (Int32.ofNat n) sz1 lim1 a1 fr1 kd1 nu1 sg1 fa1 pl1 wd1 td1 (pof pr)) :: (181, mtl ts) :: [(183, ia rd), (188, lng rn), (191, zb on)])) (some (.int ((-1 : Int32) - Int32.ofNat pl)), ov (ov H ((180, mcl p1 (Int32.ofNat n) sz1 lim1 a1 fr1 kd1 nu1 sg1 fa1 pl1 wd1 td1 (pof pr)) :: (181, mtl ts) :: [(183, ia rd), (188, lng rn), (191, zb on)])) ((180, M2) :: (181, mtl ts) :: R2))) ∨ (∃ (ln2 : Nat) (tk2 td2 : Int32) (T2 M2 : AE) (D2 R2 : List (Nat × AE)), ln2 ≤ 940 ∧ TC n 900 (pof pr) 0 tk2 td2 T2 M2 ∧ SE3 D2 R2 ∧ (∀ H : List AE, Nat.ble 204 H.length = true → FR 8 76 [.ref 3, .ref 1] (ov H ((1, tcl n lim0 a0 kd0 pl0 w0 le0 nu0 tk0 fa0 fp0) :: (2, bcl bs) :: [(3, dcl3 P Dn lw cl id gl bo), (4, lng pn), (5, ia ri), (6, ia lf), (7, ia wa), (8, ia fo), (9, lng dn), (10, ia ha), (11, ia pa), (12, ia bl)])) (some (.int (Int32.ofNat ln2)), ov (ov H ((1, tcl n lim0 a0 kd0 pl0 w0 le0 nu0 tk0 fa0 fp0) :: (2, bcl bs) :: [(3, dcl3 P Dn lw cl id gl bo), (4, lng pn), (5, ia ri), (6, ia lf), (7, ia wa), (8, ia fo), (9, lng dn), (10, ia ha), (11, ia pa), (12, ia bl)])) ((1, T2) :: (2, bcl bs) :: D2))) ∧ ∀ (H : List AE) (q : ev_R), Nat.ble 204 H.length = true → (∀ L2, ev_g L2 0 = some (.ref 180) → ev_g L2 1 = some (.int (Int32.ofNat ln2)) → RT MM 7 195 106 L2 [] (ov H ((180, M2) :: (181, mtl ts) :: R2)) q) → RT MM 7 195 0 (lv_args 0 [.ref 180]) [] (ov H ((180, mcl p1 (Int32.ofNat n) sz1 lim1 a1 fr1 kd1 nu1 sg1 fa1 pl1 wd1 td1 (pof pr)) :: (181, mtl ts) :: [(183, ia rd), (188, lng rn), (191, zb on)])) q) := by
  have d := dr_0 l lr ln lo
  have c : TC n 900 (pof pr) 0 (Int32.ofNat 0) td1 _ _ := tc_begin (B := B) (n := n) (lim := 900) (po := pof pr) (k := 0) (a := 0) (tk := Int32.ofNat 0) (td := td1) (fp := Int32.ofNat 0) (nuM := nu1) (sg := sg1) (plM := pl1) (wd := wd1) hb (Nat.zero_le _) (Nat.zero_le _)
  rcases lpn3 hB hM hb hn (by decide : (900 : Nat) ≤ 940) (n + 1) 0 0 _ _ _ _ _ _ (by omega) (by omega) c ⟨_, _, _, _, _, _, _, _, _, _, _, _, _, _, _, _, _, _, _, rfl, rfl, d⟩ with ⟨pl9, T4, M4, D4, R4, f4, s4, r4, hx2, hm2⟩ | ⟨ln2, tk4, td4, T4, M4, D4, R4, hn2, c5, s4, hx2, hm2⟩
  · have s5 := s4
    obtain ⟨y0, y1, y2, y3, y4, y5, y6, y7, y8, y9, y10, y11, y12, y13, y14, y15, rfl⟩ := s4
    have r5 := r4
    obtain ⟨y16, y17, y18, rfl⟩ := r4
    refine Or.inl ⟨pl9, T4, M4, _, _, f4, s5, r5, fun H hlen => ?_, fun H hlen => ?_⟩
    · refine FR_st rfl rfl ?_
      refine RT_step (pc2 := 1) rfl (fun _ _ => rfl) ?_
      refine ow_iv0 (l2 := ((1, tcl n lim0 a0 kd0 pl0 w0 le0 nu0 tk0 fa0 fp0) :: (2, bcl bs) :: [(3, dcl3 0 0 (Int32.ofNat 0) (Int32.ofNat 0) (Int32.ofNat 0) 0 0), (4, lng pn), (5, ia ri), (6, ia lf), (7, ia (zl wa 7 0)), (8, ia (zl fo 49 0)), (9, lng dn), (10, ia ha), (11, ia pa), (12, ia bl)])) rfl rfl rfl rfl hlen rfl rfl rfl ((x_clear3 hlen l.2.2.2.1 l.2.2.2.2.1).up (by decide)) rfl ?_
      refine RT_step (pc2 := 5) rfl (fun _ _ => rfl) ?_
      refine rt_sip rfl k16_900 ?_
      refine ow_iv0 (l2 := ((1, advC B n 900 0 (Int32.ofNat 0) (Int32.ofNat 0) (Int32.ofNat 0)) :: (2, bcl bs) :: [(3, dcl3 0 0 (Int32.ofNat 0) (Int32.ofNat 0) (Int32.ofNat 0) 0 0), (4, lng pn), (5, ia ri), (6, ia lf), (7, ia (zl wa 7 0)), (8, ia (zl fo 49 0)), (9, lng dn), (10, ia ha), (11, ia pa), (12, ia bl)])) rfl rfl rfl rfl hlen rfl rfl rfl ((x_open (n := n) (lim := 900) hB (ov_hl hlen) (ov_at rfl (ov_lt hlen (by decide))) (ov_at rfl (ov_lt hlen (by decide))) hn (by decide)).up (by decide)) rfl ?_
      refine rt_ico rfl ki_0 ?_
      refine RT_step (pc2 := 13) rfl (fun _ _ => rfl) ?_
      exact hx2 H _ hlen rfl rfl rfl
    · refine FR_st rfl rfl ?_
      exact du_s hM hlen lr lo hn (fun L2 l0 l1 => hm2 H L2 hlen l0 l1)
  · have s5 := s4
    obtain ⟨y0, y1, y2, y3, y4, y5, y6, y7, y8, y9, y10, y11, y12, y13, y14, y15, y16, y17, y18, rfl, rfl, -⟩ := s4
    refine Or.inr ⟨ln2, tk4, td4, T4, M4, _, _, hn2, c5, s5, fun H hlen => ?_, fun H q hlen h => ?_⟩
    · refine FR_st rfl rfl ?_
      refine RT_step (pc2 := 1) rfl (fun _ _ => rfl) ?_
      refine ow_iv0 (l2 := ((1, tcl n lim0 a0 kd0 pl0 w0 le0 nu0 tk0 fa0 fp0) :: (2, bcl bs) :: [(3, dcl3 0 0 (Int32.ofNat 0) (Int32.ofNat 0) (Int32.ofNat 0) 0 0), (4, lng pn), (5, ia ri), (6, ia lf), (7, ia (zl wa 7 0)), (8, ia (zl fo 49 0)), (9, lng dn), (10, ia ha), (11, ia pa), (12, ia bl)])) rfl rfl rfl rfl hlen rfl rfl rfl ((x_clear3 hlen l.2.2.2.1 l.2.2.2.2.1).up (by decide)) rfl ?_
      refine RT_step (pc2 := 5) rfl (fun _ _ => rfl) ?_
      refine rt_sip rfl k16_900 ?_
      refine ow_iv0 (l2 := ((1, advC B n 900 0 (Int32.ofNat 0) (Int32.ofNat 0) (Int32.ofNat 0)) :: (2, bcl bs) :: [(3, dcl3 0 0 (Int32.ofNat 0) (Int32.ofNat 0) (Int32.ofNat 0) 0 0), (4, lng pn), (5, ia ri), (6, ia lf), (7, ia (zl wa 7 0)), (8, ia (zl fo 49 0)), (9, lng dn), (10, ia ha), (11, ia pa), (12, ia bl)])) rfl rfl rfl rfl hlen rfl rfl rfl ((x_open (n := n) (lim := 900) hB (ov_hl hlen) (ov_at rfl (ov_lt hlen (by decide))) (ov_at rfl (ov_lt hlen (by decide))) hn (by decide)).up (by decide)) rfl ?_
      refine rt_ico rfl ki_0 ?_
      refine RT_step (pc2 := 13) rfl (fun _ _ => rfl) ?_
      exact hx2 H _ hlen rfl rfl rfl
    · exact du_s hM hlen lr lo hn (fun L2 l0 l1 => hm2 H L2 q hlen l0 l1 h)
end
section
/-! ===== all LINES (cells from 13 on) ===== -/
theorem lpn13 {B : Nat → Nat} {bs ts : List Int32} {n lim : Nat} {pr : List Value} (hB : BY bs B) (hM : MY ts B) (hb : ∀ i, B i < 256) (hn : n ≤ 940) (hl : lim ≤ 940) : ∀ (r k lines : Nat) (tk td : Int32) (T M : AE) (D R : List (Nat × AE)), n < k + r → 2 * lines ≤ k → TC n lim (pof pr) k tk td T M → SD13 D R → (∃ (pl : Nat) (T2 M2 : AE) (D2 R2 : List (Nat × AE)), FC2 n lim (pof pr) pl T2 M2 ∧ SH13 D2 ∧ SHR R2 ∧ (∀ (H : List AE) (L : List (Nat × Value)), Nat.ble 204 H.length = true → ev_g L 0 = some (.ref 13) → ev_g L 1 = some (.ref 1) → ev_g L 2 = some (.int (Int32.ofNat lines)) → RT MM 7 76 13 L [] (ov H ((1, T) :: (2, bcl bs) :: D)) (some (.int (-1 : Int32)), (ov H ((1, T2) :: (2, bcl bs) :: D2)))) ∧ ∀ (H : List AE) (L : List (Nat × Value)), Nat.ble 204 H.length = true → ev_g L 0 = some (.ref 180) → ev_g L 1 = some (.int (Int32.ofNat lines)) → RT MM 7 195 72 L [] (ov H ((180, M) :: (181, mtl ts) :: R)) (some (.int ((-1 : Int32) - Int32.ofNat pl)), (ov H ((180, M2) :: (181, mtl ts) :: R2)))) ∨ (∃ (ln2 : Nat) (tk2 td2 : Int32) (T2 M2 : AE) (D2 R2 : List (Nat × AE)), ln2 ≤ 940 ∧ TC n lim (pof pr) 0 tk2 td2 T2 M2 ∧ SE13 D2 R2 ∧ (∀ (H : List AE) (L : List (Nat × Value)), Nat.ble 204 H.length = true → ev_g L 0 = some (.ref 13) → ev_g L 1 = some (.ref 1) → ev_g L 2 = some (.int (Int32.ofNat lines)) → RT MM 7 76 13 L [] (ov H ((1, T) :: (2, bcl bs) :: D)) (some (.int (Int32.ofNat ln2)), (ov H ((1, T2) :: (2, bcl bs) :: D2)))) ∧ ∀ (H : List AE) (L : List (Nat × Value)) (q : ev_R), Nat.ble 204 H.length = true → ev_g L 0 = some (.ref 180) → ev_g L 1 = some (.int (Int32.ofNat lines)) → (∀ L2, ev_g L2 0 = some (.ref 180) → ev_g L2 1 = some (.int (Int32.ofNat ln2)) → RT MM 7 195 106 L2 [] (ov H ((180, M2) :: (181, mtl ts) :: R2)) q) → RT MM 7 195 72 L [] (ov H ((180, M) :: (181, mtl ts) :: R)) q) := by
  intro r
  induction r with
  | zero =>
    intro k lines tk td T M D R hr hk c g
    obtain ⟨a, kd, pl, w, le, nu, fp, nm, sg, qm, wd, rfl, rfl, t⟩ := c
    have h1 := t.1
    have h2 := t.2.1
    omega
  | succ r ih =>
    intro k lines tk td T M D R hr hk c g
    obtain ⟨a, kd, pl, w, le, nu, fp, nm, sg, qm, wd, rfl, rfl, t⟩ := c
    obtain ⟨P, Dn, lw, cl, id, gl, bo, pn, ri, lf, wa, fo, dn, ha, pa, bl, rd, rn, on, rfl, rfl, d⟩ := g
    have hlin : lines ≤ 470 := by have h1 := t.1; have h2 := t.2.1; omega
    have hkd := t.2.2.2.1
    by_cases c4 : kd = 4
    · obtain ⟨hP, hD, ⟨l1, l2, l3, l4, l5, l6, l7, l8, l9⟩, lr, ln, lo, hN, hV, hW, o1, o2, o3⟩ := d
      obtain ⟨v1, v2, v3, g1, g2, g3, hf⟩ := x_fill13 (bs := bs) (T := tcl n lim a kd pl w le nu tk (Int32.ofNat 0) fp) (P := P) (Dn := Dn) (lw := lw) (cl := cl) (id := id) (gl := gl) (bo := bo) (pn := pn) (ri := ri) (lf := lf) (wa := wa) (fo := fo) (dn := dn) (ha := ha) (pa := pa) (bl := bl) o1 o2 o3
      have e0 : km kd = 0 := (km_is kd hkd).2.2.2.2.1.mpr c4
      refine Or.inr ⟨lines, tk, td, tcl n lim a kd pl w le nu tk (Int32.ofNat 0) fp, mcl (Int32.ofNat 0) (Int32.ofNat 0) n lim a pl (km kd) nm sg (Int32.ofNat 0) qm wd td (pof pr), [(13, dcl13 P Dn v1 v2 v3 gl bo), (14, lng pn), (15, ia ri), (16, ia lf), (17, ia wa), (18, ia fo), (19, lng dn), (20, ia ha), (21, ia pa), (22, ia bl)], [(183, ia rd), (188, lng rn), (191, zb on)], by omega, tc_mono (tf_td t) (Nat.zero_le _), ⟨_, _, _, _, _, _, _, _, _, _, _, _, _, _, _, _, _, _, _, rfl, rfl, lr, ln, hP, hD, ⟨l1, l2, l3, l4, l5, l6, l7, l8, l9⟩, hN, hV, hW, g1, g2, g3⟩, fun H L hlen l0 l1 l2 => ?_, fun H L q hlen l0 l1 h => ?_⟩
      · refine rt_ild rfl l2 ?_
        refine rt_sip rfl k16_900 ?_
        refine biF_gt rfl (n_nlt (by omega) (by decide)) ?_
        refine rt_ald rfl l1 ?_
        refine ow_gf rfl rfl rfl hlen rfl ?_
        refine rt_ico rfl ki_4 ?_
        refine biT_ne rfl (n_eq c4) ?_
        refine rt_ald rfl l0 ?_
        refine ow_iv0 (l2 := ((1, tcl n lim a kd pl w le nu tk (Int32.ofNat 0) fp) :: (2, bcl bs) :: [(13, dcl13 P Dn v1 v2 v3 gl bo), (14, lng pn), (15, ia ri), (16, ia lf), (17, ia wa), (18, ia fo), (19, lng dn), (20, ia ha), (21, ia pa), (22, ia bl)])) rfl rfl rfl rfl hlen rfl rfl rfl ((hf H hlen).up (by decide)) rfl ?_
        refine rt_ild rfl l2 ?_
        exact ow_irt rfl rfl rfl
      · refine rt_ald rfl l0 ?_
        refine ow_gf rfl rfl rfl hlen rfl ?_
        refine bcT_eq rfl (n_eq (b := 0) e0) ?_
        exact h L l0 l1
    · have ek : ¬ Int32.ofNat (km kd) = 0 := n_ne (b := 0) (fun e => c4 ((km_is kd hkd).2.2.2.2.1.mp e)) (by have := (km_is kd hkd).2.2.2.2.2; omega) (by decide)
      rcases ln13 (zz := Int32.ofNat lines) hB hM hb hn hl (pr := pr) (pl := pl) (tk := tk) (td := td) (fp := fp) (qm := qm) t c4 d with ⟨T2, M2, D2, R2, f, g1, g2, hx, hm⟩ | ⟨tk2, td2, T2, M2, D2, R2, c2, g, hx, hm⟩
      · obtain ⟨a9, kd9, pl9, w9, le9, nu9, tk9, kk9, am9, fm9, kM9, nm9, sg9, fa9, qm9, wd9, td9, rfl, rfl, rfl, rfl, k1, k4⟩ := f
        obtain ⟨y0, y1, y2, y3, y4, y5, y6, y7, y8, y9, y10, y11, y12, y13, y14, y15, rfl⟩ := g1
        obtain ⟨y16, y17, y18, rfl⟩ := g2
        refine Or.inl ⟨pl9, tcl n lim a9 kd9 pl9 w9 le9 nu9 tk9 (Int32.ofNat kk9) (Int32.ofNat pl9), mcl (Int32.ofNat 0) (Int32.ofNat 0) n lim am9 fm9 kM9 nm9 sg9 (Int32.ofNat kk9) (Int32.ofNat pl9) wd9 td9 (pof pr), [(13, dcl13 y0 y1 y2 y3 y4 y5 y6), (14, lng y7), (15, ia y8), (16, ia y9), (17, ia y10), (18, ia y11), (19, lng y12), (20, ia y13), (21, ia y14), (22, ia y15)], [(183, ia y16), (188, lng y17), (191, zb y18)], ⟨a9, kd9, w9, le9, nu9, tk9, kk9, am9, fm9, kM9, nm9, sg9, _, _, wd9, td9, rfl, rfl, rfl, rfl, k1, k4⟩, ⟨_, _, _, _, _, _, _, _, _, _, _, _, _, _, _, _, rfl⟩, ⟨_, _, _, rfl⟩, fun H L hlen l0 l1 l2 => ?_, fun H L hlen l0 l1 => ?_⟩
        · refine rt_ild rfl l2 ?_
          refine rt_sip rfl k16_900 ?_
          refine biF_gt rfl (n_nlt (by omega) (by decide)) ?_
          refine rt_ald rfl l1 ?_
          refine ow_gf rfl rfl rfl hlen rfl ?_
          refine rt_ico rfl ki_4 ?_
          refine biF_ne rfl (n_ne c4 (by omega) (by decide)) ?_
          refine hx H L _ hlen l0 l1 l2 (fun L2 m0 m1 m2 m3 => ?_)
          refine rt_ild rfl m3 ?_
          refine bcT_eq rfl rfl ?_
          refine rt_ico rfl ki_m1 ?_
          exact ow_irt rfl rfl rfl
        · refine rt_ald rfl l0 ?_
          refine ow_gf rfl rfl rfl hlen rfl ?_
          refine bcF_eq rfl ek ?_
          refine rt_ald rfl l0 ?_
          refine ow_iv1 (l2 := ((180, mcl (Int32.ofNat 0) (Int32.ofNat 0) n lim am9 fm9 kM9 nm9 sg9 (Int32.ofNat kk9) (Int32.ofNat pl9) wd9 td9 (pof pr)) :: (181, mtl ts) :: [(183, ia y16), (188, lng y17), (191, zb y18)])) rfl rfl rfl rfl hlen rfl rfl rfl ((hm H hlen).up (by decide)) rfl ?_
          refine bcT_eq rfl rfl ?_
          refine rt_ico rfl ki_m1 ?_
          refine rt_ald rfl l0 ?_
          refine ow_gf rfl rfl rfl hlen rfl ?_
          refine ba_isub rfl ?_
          exact ow_irt rfl rfl rfl
      · have gg := g
        obtain ⟨y0, y1, y2, y3, y4, y5, y6, y7, y8, y9, y10, y11, y12, y13, y14, y15, y16, y17, y18, rfl, rfl, -⟩ := g
        obtain ⟨a2, kd2, pl2, w2, le2, nu2, fp2, nm2, sg2, qm2, wd2, rfl, rfl, t2⟩ := c2
        rcases s_end hB hM hb hn hl (po := pof pr) (pl := pl2) (tk := tk2) (td := td2) (fp := fp2) (plM := qm2) t2 with ⟨T3, M3, f, x3, m3q⟩ | ⟨T3, M3, c3, x3, m3q⟩
        · obtain ⟨a9, kd9, pl9, w9, le9, nu9, tk9, kk9, am9, fm9, kM9, nm9, sg9, fa9, qm9, wd9, td9, rfl, rfl, rfl, rfl, k1, k4⟩ := f
          refine Or.inl ⟨pl9, tcl n lim a9 kd9 pl9 w9 le9 nu9 tk9 (Int32.ofNat kk9) (Int32.ofNat pl9), mcl (Int32.ofNat 0) (Int32.ofNat 0) n lim am9 fm9 kM9 nm9 sg9 (Int32.ofNat kk9) (Int32.ofNat pl9) wd9 td9 (pof pr), [(13, dcl13 y0 y1 y2 y3 y4 y5 y6), (14, lng y7), (15, ia y8), (16, ia y9), (17, ia y10), (18, ia y11), (19, lng y12), (20, ia y13), (21, ia y14), (22, ia y15)], [(183, ia y16), (188, lng y17), (191, zb y18)], ⟨a9, kd9, w9, le9, nu9, tk9, kk9, am9, fm9, kM9, nm9, sg9, _, _, wd9, td9, rfl, rfl, rfl, rfl, k1, k4⟩, ⟨_, _, _, _, _, _, _, _, _, _, _, _, _, _, _, _, rfl⟩, ⟨_, _, _, rfl⟩, fun H L hlen l0 l1 l2 => ?_, fun H L hlen l0 l1 => ?_⟩
          · refine rt_ild rfl l2 ?_
            refine rt_sip rfl k16_900 ?_
            refine biF_gt rfl (n_nlt (by omega) (by decide)) ?_
            refine rt_ald rfl l1 ?_
            refine ow_gf rfl rfl rfl hlen rfl ?_
            refine rt_ico rfl ki_4 ?_
            refine biF_ne rfl (n_ne c4 (by omega) (by decide)) ?_
            refine hx H L _ hlen l0 l1 l2 (fun L2 m0 m1 m2 m3 => ?_)
            refine rt_ild rfl m3 ?_
            refine bcF_eq rfl (by decide) ?_
            refine rt_ald rfl m1 ?_
            refine rt_bip rfl k8_59 ?_
            refine ow_iv1 (l2 := ((1, tcl n lim a9 kd9 pl9 w9 le9 nu9 tk9 (Int32.ofNat kk9) (Int32.ofNat pl9)) :: (2, bcl bs) :: [(13, dcl13 y0 y1 y2 y3 y4 y5 y6), (14, lng y7), (15, ia y8), (16, ia y9), (17, ia y10), (18, ia y11), (19, lng y12), (20, ia y13), (21, ia y14), (22, ia y15)])) rfl rfl rfl rfl hlen rfl rfl rfl ((x3 _ (ov_hl hlen) (ov_at rfl (ov_lt hlen (by decide))) (ov_at rfl (ov_lt hlen (by decide)))).up (by decide)) rfl ?_
            refine bcT_ne rfl rfl ?_
            refine rt_ico rfl ki_m1 ?_
            exact ow_irt rfl rfl rfl
          · refine rt_ald rfl l0 ?_
            refine ow_gf rfl rfl rfl hlen rfl ?_
            refine bcF_eq rfl ek ?_
            refine rt_ald rfl l0 ?_
            refine ow_iv1 (l2 := ((180, mcl (Int32.ofNat 0) (Int32.ofNat 0) n lim a2 pl2 (km kd2) nm2 sg2 (Int32.ofNat 0) qm2 wd2 td2 (pof pr)) :: (181, mtl ts) :: [(183, ia y16), (188, lng y17), (191, zb y18)])) rfl rfl rfl rfl hlen rfl rfl rfl ((hm H hlen).up (by decide)) rfl ?_
            refine bcF_eq rfl (by decide) ?_
            refine rt_ald rfl l0 ?_
            refine ow_iv1 (l2 := ((180, mcl (Int32.ofNat 0) (Int32.ofNat 0) n lim am9 fm9 kM9 nm9 sg9 (Int32.ofNat kk9) (Int32.ofNat pl9) wd9 td9 (pof pr)) :: (181, mtl ts) :: [(183, ia y16), (188, lng y17), (191, zb y18)])) rfl rfl rfl rfl hlen rfl rfl rfl ((m3q _ (ov_hl hlen) (ov_at rfl (ov_lt hlen (by decide))) (ov_at rfl (ov_lt hlen (by decide)))).up (by decide)) rfl ?_
            refine bcT_ne rfl rfl ?_
            refine rt_ico rfl ki_m1 ?_
            refine rt_ald rfl l0 ?_
            refine ow_gf rfl rfl rfl hlen rfl ?_
            refine ba_isub rfl ?_
            exact ow_irt rfl rfl rfl
        · rcases ih (k + 1 + 1) (lines + 1) tk2 td2 T3 M3 _ _ (by omega) (by omega) c3 gg with ⟨pl9, T4, M4, D4, R4, f4, s4, r4, hx2, hm2⟩ | ⟨ln2, tk4, td4, T4, M4, D4, R4, hn2, c5, s4, hx2, hm2⟩
          · refine Or.inl ⟨pl9, T4, M4, D4, R4, f4, s4, r4, fun H L hlen l0 l1 l2 => ?_, fun H L hlen l0 l1 => ?_⟩
            · refine rt_ild rfl l2 ?_
              refine rt_sip rfl k16_900 ?_
              refine biF_gt rfl (n_nlt (by omega) (by decide)) ?_
              refine rt_ald rfl l1 ?_
              refine ow_gf rfl rfl rfl hlen rfl ?_
              refine rt_ico rfl ki_4 ?_
              refine biF_ne rfl (n_ne c4 (by omega) (by decide)) ?_
              refine hx H L _ hlen l0 l1 l2 (fun L2 m0 m1 m2 m3 => ?_)
              refine rt_ild rfl m3 ?_
              refine bcF_eq rfl (by decide) ?_
              refine rt_ald rfl m1 ?_
              refine rt_bip rfl k8_59 ?_
              refine ow_iv1 (l2 := ((1, T3) :: (2, bcl bs) :: [(13, dcl13 y0 y1 y2 y3 y4 y5 y6), (14, lng y7), (15, ia y8), (16, ia y9), (17, ia y10), (18, ia y11), (19, lng y12), (20, ia y13), (21, ia y14), (22, ia y15)])) rfl rfl rfl rfl hlen rfl rfl rfl ((x3 _ (ov_hl hlen) (ov_at rfl (ov_lt hlen (by decide))) (ov_at rfl (ov_lt hlen (by decide)))).up (by decide)) rfl ?_
              refine bcF_ne rfl (by decide) ?_
              refine rt_inc rfl m2 (by decide +kernel) ?_
              rw [in_1]
              refine RT_step (pc2 := 13) rfl (fun _ _ => rfl) ?_
              exact hx2 H _ hlen (gs_o rfl m0 rfl) (gs_o rfl m1 rfl) gs_n
            · refine rt_ald rfl l0 ?_
              refine ow_gf rfl rfl rfl hlen rfl ?_
              refine bcF_eq rfl ek ?_
              refine rt_ald rfl l0 ?_
              refine ow_iv1 (l2 := ((180, mcl (Int32.ofNat 0) (Int32.ofNat 0) n lim a2 pl2 (km kd2) nm2 sg2 (Int32.ofNat 0) qm2 wd2 td2 (pof pr)) :: (181, mtl ts) :: [(183, ia y16), (188, lng y17), (191, zb y18)])) rfl rfl rfl rfl hlen rfl rfl rfl ((hm H hlen).up (by decide)) rfl ?_
              refine bcF_eq rfl (by decide) ?_
              refine rt_ald rfl l0 ?_
              refine ow_iv1 (l2 := ((180, M3) :: (181, mtl ts) :: [(183, ia y16), (188, lng y17), (191, zb y18)])) rfl rfl rfl rfl hlen rfl rfl rfl ((m3q _ (ov_hl hlen) (ov_at rfl (ov_lt hlen (by decide))) (ov_at rfl (ov_lt hlen (by decide)))).up (by decide)) rfl ?_
              refine bcF_ne rfl (by decide) ?_
              refine rt_inc rfl l1 (by decide +kernel) ?_
              rw [in_1]
              refine RT_step (pc2 := 72) rfl (fun _ _ => rfl) ?_
              exact hm2 H _ hlen (gs_o rfl l0 rfl) gs_n
          · refine Or.inr ⟨ln2, tk4, td4, T4, M4, D4, R4, hn2, c5, s4, fun H L hlen l0 l1 l2 => ?_, fun H L q hlen l0 l1 h => ?_⟩
            · refine rt_ild rfl l2 ?_
              refine rt_sip rfl k16_900 ?_
              refine biF_gt rfl (n_nlt (by omega) (by decide)) ?_
              refine rt_ald rfl l1 ?_
              refine ow_gf rfl rfl rfl hlen rfl ?_
              refine rt_ico rfl ki_4 ?_
              refine biF_ne rfl (n_ne c4 (by omega) (by decide)) ?_
              refine hx H L _ hlen l0 l1 l2 (fun L2 m0 m1 m2 m3 => ?_)
              refine rt_ild rfl m3 ?_
              refine bcF_eq rfl (by decide) ?_
              refine rt_ald rfl m1 ?_
              refine rt_bip rfl k8_59 ?_
              refine ow_iv1 (l2 := ((1, T3) :: (2, bcl bs) :: [(13, dcl13 y0 y1 y2 y3 y4 y5 y6), (14, lng y7), (15, ia y8), (16, ia y9), (17, ia y10), (18, ia y11), (19, lng y12), (20, ia y13), (21, ia y14), (22, ia y15)])) rfl rfl rfl rfl hlen rfl rfl rfl ((x3 _ (ov_hl hlen) (ov_at rfl (ov_lt hlen (by decide))) (ov_at rfl (ov_lt hlen (by decide)))).up (by decide)) rfl ?_
              refine bcF_ne rfl (by decide) ?_
              refine rt_inc rfl m2 (by decide +kernel) ?_
              rw [in_1]
              refine RT_step (pc2 := 13) rfl (fun _ _ => rfl) ?_
              exact hx2 H _ hlen (gs_o rfl m0 rfl) (gs_o rfl m1 rfl) gs_n
            · refine rt_ald rfl l0 ?_
              refine ow_gf rfl rfl rfl hlen rfl ?_
              refine bcF_eq rfl ek ?_
              refine rt_ald rfl l0 ?_
              refine ow_iv1 (l2 := ((180, mcl (Int32.ofNat 0) (Int32.ofNat 0) n lim a2 pl2 (km kd2) nm2 sg2 (Int32.ofNat 0) qm2 wd2 td2 (pof pr)) :: (181, mtl ts) :: [(183, ia y16), (188, lng y17), (191, zb y18)])) rfl rfl rfl rfl hlen rfl rfl rfl ((hm H hlen).up (by decide)) rfl ?_
              refine bcF_eq rfl (by decide) ?_
              refine rt_ald rfl l0 ?_
              refine ow_iv1 (l2 := ((180, M3) :: (181, mtl ts) :: [(183, ia y16), (188, lng y17), (191, zb y18)])) rfl rfl rfl rfl hlen rfl rfl rfl ((m3q _ (ov_hl hlen) (ov_at rfl (ov_lt hlen (by decide))) (ov_at rfl (ov_lt hlen (by decide)))).up (by decide)) rfl ?_
              refine bcF_ne rfl (by decide) ?_
              refine rt_inc rfl l1 (by decide +kernel) ?_
              rw [in_1]
              refine RT_step (pc2 := 72) rfl (fun _ _ => rfl) ?_
              exact hm2 H _ q hlen (gs_o rfl l0 rfl) gs_n h
theorem rf13 {B : Nat → Nat} {bs ts : List Int32} {n : Nat} {pr : List Value} (hB : BY bs B) (hM : MY ts B) (hb : ∀ i, B i < 256) (hn : n ≤ 940) {lim0 a0 kd0 pl0 w0 : Nat} {le0 : Int64} {nu0 tk0 fa0 fp0 : Int32} {sz1 lim1 a1 fr1 kd1 : Nat} {p1 nu1 sg1 fa1 pl1 td1 : Int32} {wd1 : Int64} {P : Nat} {Dn : Nat} {lw : Int32} {cl : Int32} {id : Int32} {gl : Nat} {bo : Nat} {pn : List Int64} {ri : List Int32} {lf : List Int32} {wa : List Int32} {fo : List Int32} {dn : List Int64} {ha : List Int32} {pa : List Int32} {bl : List Int32} {rd : List Int32} {rn : List Int64} {on : List Int32} (l : DL pn ri lf wa fo dn ha pa bl) (lr : rd.length = 101) (ln : rn.length = 15) (lo : on.length = 3) : (∃ (pl : Nat) (T2 M2 : AE) (D2 R2 : List (Nat × AE)), FC2 n 900 (pof pr) pl T2 M2 ∧ SH13 D2 ∧ SHR R2 ∧ (∀ H : List AE, Nat.ble 204 H.length = true → FR 8 76 [.ref 13, .ref 1] (ov H ((1, tcl n lim0 a0 kd0 pl0 w0 le0 nu0 tk0 fa0 fp0) :: (2, bcl bs) :: [(13, dcl13 P Dn lw cl id gl bo), (14, lng pn), (15, ia ri), (16, ia lf), (17, ia wa), (18, ia fo), (19, lng dn), (20, ia ha), (21, ia pa), (22, ia bl)])) (some (.int (-1 : Int32)), ov (ov H ((1, tcl n lim0 a0 kd0 pl0 w0 le0 nu0 tk0 fa0 fp0) :: (2, bcl bs) :: [(13, dcl13 P Dn lw cl id gl bo), (14, lng pn), (15, ia ri), (16, ia lf), (17, ia wa), (18, ia fo), (19, lng dn), (20, ia ha), (21, ia pa), (22, ia bl)])) ((1, T2) :: (2, bcl bs) :: D2))) ∧ ∀ H : List AE, Nat.ble 204 H.length = true → FR 8 195 [.ref 180] (ov H ((180, mcl p1 (Int32.ofNat n) sz1 lim1 a1 fr1 kd1 nu1 sg1 fa1 pl1 wd1 td1 (pof pr)) :: (181, mtl ts) :: [(183, ia rd), (188, lng rn), (191, zb on)])) (some (.int ((-1 : Int32) - Int32.ofNat pl)), ov (ov H ((180, mcl p1 (Int32.ofNat n) sz1 lim1 a1 fr1 kd1 nu1 sg1 fa1 pl1 wd1 td1 (pof pr)) :: (181, mtl ts) :: [(183, ia rd), (188, lng rn), (191, zb on)])) ((180, M2) :: (181, mtl ts) :: R2))) ∨ (∃ (ln2 : Nat) (tk2 td2 : Int32) (T2 M2 : AE) (D2 R2 : List (Nat × AE)), ln2 ≤ 940 ∧ TC n 900 (pof pr) 0 tk2 td2 T2 M2 ∧ SE13 D2 R2 ∧ (∀ H : List AE, Nat.ble 204 H.length = true → FR 8 76 [.ref 13, .ref 1] (ov H ((1, tcl n lim0 a0 kd0 pl0 w0 le0 nu0 tk0 fa0 fp0) :: (2, bcl bs) :: [(13, dcl13 P Dn lw cl id gl bo), (14, lng pn), (15, ia ri), (16, ia lf), (17, ia wa), (18, ia fo), (19, lng dn), (20, ia ha), (21, ia pa), (22, ia bl)])) (some (.int (Int32.ofNat ln2)), ov (ov H ((1, tcl n lim0 a0 kd0 pl0 w0 le0 nu0 tk0 fa0 fp0) :: (2, bcl bs) :: [(13, dcl13 P Dn lw cl id gl bo), (14, lng pn), (15, ia ri), (16, ia lf), (17, ia wa), (18, ia fo), (19, lng dn), (20, ia ha), (21, ia pa), (22, ia bl)])) ((1, T2) :: (2, bcl bs) :: D2))) ∧ ∀ (H : List AE) (q : ev_R), Nat.ble 204 H.length = true → (∀ L2, ev_g L2 0 = some (.ref 180) → ev_g L2 1 = some (.int (Int32.ofNat ln2)) → RT MM 7 195 106 L2 [] (ov H ((180, M2) :: (181, mtl ts) :: R2)) q) → RT MM 7 195 0 (lv_args 0 [.ref 180]) [] (ov H ((180, mcl p1 (Int32.ofNat n) sz1 lim1 a1 fr1 kd1 nu1 sg1 fa1 pl1 wd1 td1 (pof pr)) :: (181, mtl ts) :: [(183, ia rd), (188, lng rn), (191, zb on)])) q) := by
  have d := dr_0 l lr ln lo
  have c : TC n 900 (pof pr) 0 (Int32.ofNat 0) td1 _ _ := tc_begin (B := B) (n := n) (lim := 900) (po := pof pr) (k := 0) (a := 0) (tk := Int32.ofNat 0) (td := td1) (fp := Int32.ofNat 0) (nuM := nu1) (sg := sg1) (plM := pl1) (wd := wd1) hb (Nat.zero_le _) (Nat.zero_le _)
  rcases lpn13 hB hM hb hn (by decide : (900 : Nat) ≤ 940) (n + 1) 0 0 _ _ _ _ _ _ (by omega) (by omega) c ⟨_, _, _, _, _, _, _, _, _, _, _, _, _, _, _, _, _, _, _, rfl, rfl, d⟩ with ⟨pl9, T4, M4, D4, R4, f4, s4, r4, hx2, hm2⟩ | ⟨ln2, tk4, td4, T4, M4, D4, R4, hn2, c5, s4, hx2, hm2⟩
  · have s5 := s4
    obtain ⟨y0, y1, y2, y3, y4, y5, y6, y7, y8, y9, y10, y11, y12, y13, y14, y15, rfl⟩ := s4
    have r5 := r4
    obtain ⟨y16, y17, y18, rfl⟩ := r4
    refine Or.inl ⟨pl9, T4, M4, _, _, f4, s5, r5, fun H hlen => ?_, fun H hlen => ?_⟩
    · refine FR_st rfl rfl ?_
      refine RT_step (pc2 := 1) rfl (fun _ _ => rfl) ?_
      refine ow_iv0 (l2 := ((1, tcl n lim0 a0 kd0 pl0 w0 le0 nu0 tk0 fa0 fp0) :: (2, bcl bs) :: [(13, dcl13 0 0 (Int32.ofNat 0) (Int32.ofNat 0) (Int32.ofNat 0) 0 0), (14, lng pn), (15, ia ri), (16, ia lf), (17, ia (zl wa 7 0)), (18, ia (zl fo 49 0)), (19, lng dn), (20, ia ha), (21, ia pa), (22, ia bl)])) rfl rfl rfl rfl hlen rfl rfl rfl ((x_clear13 hlen l.2.2.2.1 l.2.2.2.2.1).up (by decide)) rfl ?_
      refine RT_step (pc2 := 5) rfl (fun _ _ => rfl) ?_
      refine rt_sip rfl k16_900 ?_
      refine ow_iv0 (l2 := ((1, advC B n 900 0 (Int32.ofNat 0) (Int32.ofNat 0) (Int32.ofNat 0)) :: (2, bcl bs) :: [(13, dcl13 0 0 (Int32.ofNat 0) (Int32.ofNat 0) (Int32.ofNat 0) 0 0), (14, lng pn), (15, ia ri), (16, ia lf), (17, ia (zl wa 7 0)), (18, ia (zl fo 49 0)), (19, lng dn), (20, ia ha), (21, ia pa), (22, ia bl)])) rfl rfl rfl rfl hlen rfl rfl rfl ((x_open (n := n) (lim := 900) hB (ov_hl hlen) (ov_at rfl (ov_lt hlen (by decide))) (ov_at rfl (ov_lt hlen (by decide))) hn (by decide)).up (by decide)) rfl ?_
      refine rt_ico rfl ki_0 ?_
      refine RT_step (pc2 := 13) rfl (fun _ _ => rfl) ?_
      exact hx2 H _ hlen rfl rfl rfl
    · refine FR_st rfl rfl ?_
      exact du_s hM hlen lr lo hn (fun L2 l0 l1 => hm2 H L2 hlen l0 l1)
  · have s5 := s4
    obtain ⟨y0, y1, y2, y3, y4, y5, y6, y7, y8, y9, y10, y11, y12, y13, y14, y15, y16, y17, y18, rfl, rfl, -⟩ := s4
    refine Or.inr ⟨ln2, tk4, td4, T4, M4, _, _, hn2, c5, s5, fun H hlen => ?_, fun H q hlen h => ?_⟩
    · refine FR_st rfl rfl ?_
      refine RT_step (pc2 := 1) rfl (fun _ _ => rfl) ?_
      refine ow_iv0 (l2 := ((1, tcl n lim0 a0 kd0 pl0 w0 le0 nu0 tk0 fa0 fp0) :: (2, bcl bs) :: [(13, dcl13 0 0 (Int32.ofNat 0) (Int32.ofNat 0) (Int32.ofNat 0) 0 0), (14, lng pn), (15, ia ri), (16, ia lf), (17, ia (zl wa 7 0)), (18, ia (zl fo 49 0)), (19, lng dn), (20, ia ha), (21, ia pa), (22, ia bl)])) rfl rfl rfl rfl hlen rfl rfl rfl ((x_clear13 hlen l.2.2.2.1 l.2.2.2.2.1).up (by decide)) rfl ?_
      refine RT_step (pc2 := 5) rfl (fun _ _ => rfl) ?_
      refine rt_sip rfl k16_900 ?_
      refine ow_iv0 (l2 := ((1, advC B n 900 0 (Int32.ofNat 0) (Int32.ofNat 0) (Int32.ofNat 0)) :: (2, bcl bs) :: [(13, dcl13 0 0 (Int32.ofNat 0) (Int32.ofNat 0) (Int32.ofNat 0) 0 0), (14, lng pn), (15, ia ri), (16, ia lf), (17, ia (zl wa 7 0)), (18, ia (zl fo 49 0)), (19, lng dn), (20, ia ha), (21, ia pa), (22, ia bl)])) rfl rfl rfl rfl hlen rfl rfl rfl ((x_open (n := n) (lim := 900) hB (ov_hl hlen) (ov_at rfl (ov_lt hlen (by decide))) (ov_at rfl (ov_lt hlen (by decide))) hn (by decide)).up (by decide)) rfl ?_
      refine rt_ico rfl ki_0 ?_
      refine RT_step (pc2 := 13) rfl (fun _ _ => rfl) ?_
      exact hx2 H _ hlen rfl rfl rfl
    · exact du_s hM hlen lr lo hn (fun L2 l0 l1 => hm2 H L2 q hlen l0 l1 h)
end
section
theorem k16_132 : (Int16.ofInt 132).toInt32 = Int32.ofNat 132 := by decide +kernel
theorem k16_396 : (Int16.ofInt 396).toInt32 = Int32.ofNat 396 := by decide +kernel
/-! ===== cells opened ===== -/
theorem len_s {α : Type} {fs : List α} {n : Nat} (h : fs.length = n + 1) : ∃ f t, fs = f :: t ∧ t.length = n := by
  cases fs with
  | nil => cases h
  | cons f t => exact ⟨f, t, rfl, Nat.succ.inj h⟩
theorem len_0 {α : Type} {fs : List α} (h : fs.length = 0) : fs = [] := List.length_eq_zero_iff.mp h
theorem i32_nat (z : Int32) : ∃ k : Nat, z = Int32.ofNat k := ⟨z.toBitVec.toNat, by
  apply Int32.toBitVec_inj.mp
  show z.toBitVec = BitVec.ofNat 32 z.toBitVec.toNat
  rw [BitVec.ofNat_toNat, BitVec.setWidth_eq]⟩
theorem i32_nz {z : Int32} (h : 0 ≤ z.toInt) : z = Int32.ofNat z.toInt.toNat := by
  apply Int32.toInt_inj.mp
  have := i32_hi z
  rw [n_int (by omega)]
  omega
def fl (v : Int32) (l : List Int32) : Nat → Nat → List Int32
  | 0, _ => l
  | r + 1, i => fl v (l.set i v) r (i + 1)
theorem fl_len {v : Int32} : ∀ {r i : Nat} {l : List Int32}, (fl v l r i).length = l.length
  | 0, _, _ => rfl
  | r + 1, i, l => by
    show (fl v (l.set i v) r (i + 1)).length = _
    rw [fl_len, List.length_set]
theorem fl_no {v : Int32} : ∀ {r i j : Nat} {l : List Int32}, (j < i ∨ i + r ≤ j) → (fl v l r i)[j]? = l[j]?
  | 0, _, _, _, _ => rfl
  | r + 1, i, j, l, h => by
    show (fl v (l.set i v) r (i + 1))[j]? = _
    rw [fl_no (by omega), List.getElem?_set_ne (by omega)]
def cpl {α : Type} (s l : List α) : Nat → Nat → List α
  | 0, _ => l
  | r + 1, i => cpl s (match s[i]? with
    | some v => l.set i v
    | none => l) r (i + 1)
theorem cpl_s {α : Type} {s l : List α} {r i : Nat} {v : α} (h : s[i]? = some v) : cpl s l (r + 1) i = cpl s (l.set i v) r (i + 1) := by
  show cpl s (match s[i]? with
    | some v => l.set i v
    | none => l) r (i + 1) = _
  rw [h]
theorem cpl_len {α : Type} {s : List α} : ∀ {r i : Nat} {l : List α}, (cpl s l r i).length = l.length
  | 0, _, _ => rfl
  | r + 1, i, l => by
    show (cpl s (match s[i]? with
      | some v => l.set i v
      | none => l) r (i + 1)).length = _
    rw [cpl_len]
    split
    · rw [List.length_set]
    · rfl
theorem cpl_no {α : Type} {s : List α} : ∀ {r i j : Nat} {l : List α}, (j < i ∨ i + r ≤ j) → (cpl s l r i)[j]? = l[j]?
  | 0, _, _, _, _ => rfl
  | r + 1, i, j, l, h => by
    show (cpl s (match s[i]? with
      | some v => l.set i v
      | none => l) r (i + 1))[j]? = _
    rw [cpl_no (by omega)]
    split
    · rw [List.getElem?_set_ne (by omega)]
    · rfl
theorem cpl_at {α : Type} {s : List α} : ∀ {r i j : Nat} {l : List α}, i ≤ j → j < i + r → j < s.length → j < l.length → (cpl s l r i)[j]? = s[j]?
  | 0, i, j, l, h1, h2, _, _ => by omega
  | r + 1, i, j, l, h1, h2, h3, h4 => by
    by_cases c : i = j
    · subst c
      rw [cpl_s (gd_i h3), cpl_no (Or.inl (Nat.lt_succ_self i)), List.getElem?_set_self h4, gd_i h3]
    · rw [cpl_s (gd_i (show i < s.length by omega))]
      exact cpl_at (by omega) (by omega) h3 (by rw [List.length_set]; exact h4)
theorem oc_0 {hp : List AE} (h : hp_ok GG hp) : ∃ (d : Nat) (s : Nat) (se : Nat) (ss : Nat) (lt : Int32) (fb : Int32) (tq : Int32) (gb : Int32), hp[0]? = some (.inr (10, [.ref 1, .ref d, .ref s, .ref 23, .ref 31, .ref 39, .ref 105, .ref se, .ref ss, .ref 120, .ref 125, .ref 129, .ref 131, .int lt, .int fb, .int tq, .int gb])) ∧ (d = 3 ∨ d = 13) ∧ (s = 3 ∨ s = 13) ∧ (se = 110 ∨ se = 115) ∧ (ss = 110 ∨ ss = 115) := by
  obtain ⟨q1, q2⟩ := h.1 0 gc0 rfl
  obtain ⟨fs, e1, e2⟩ := hh_obj q1
  have g : ∀ i v, fs[i]? = some v → ∀ ft, lkp gc0.2.2 i = some ft → ft_ok ft v := fun i v hv ft hf => (q2 i v (by unfold hq; rw [e1]; exact hv)).2 ft hf
  obtain ⟨f0, fs0, rfl, k0⟩ := len_s e2
  obtain ⟨f1, fs1, rfl, k1⟩ := len_s k0
  obtain ⟨f2, fs2, rfl, k2⟩ := len_s k1
  obtain ⟨f3, fs3, rfl, k3⟩ := len_s k2
  obtain ⟨f4, fs4, rfl, k4⟩ := len_s k3
  obtain ⟨f5, fs5, rfl, k5⟩ := len_s k4
  obtain ⟨f6, fs6, rfl, k6⟩ := len_s k5
  obtain ⟨f7, fs7, rfl, k7⟩ := len_s k6
  obtain ⟨f8, fs8, rfl, k8⟩ := len_s k7
  obtain ⟨f9, fs9, rfl, k9⟩ := len_s k8
  obtain ⟨f10, fs10, rfl, k10⟩ := len_s k9
  obtain ⟨f11, fs11, rfl, k11⟩ := len_s k10
  obtain ⟨f12, fs12, rfl, k12⟩ := len_s k11
  obtain ⟨f13, fs13, rfl, k13⟩ := len_s k12
  obtain ⟨f14, fs14, rfl, k14⟩ := len_s k13
  obtain ⟨f15, fs15, rfl, k15⟩ := len_s k14
  obtain ⟨f16, fs16, rfl, k16⟩ := len_s k15
  obtain rfl := len_0 k16
  obtain rfl : f0 = .ref 1 := g 0 f0 rfl _ rfl
  have r1 : f1 = .ref 3 ∨ f1 = .ref 13 := g 1 f1 rfl _ rfl
  have r2 : f2 = .ref 3 ∨ f2 = .ref 13 := g 2 f2 rfl _ rfl
  obtain rfl : f3 = .ref 23 := g 3 f3 rfl _ rfl
  obtain rfl : f4 = .ref 31 := g 4 f4 rfl _ rfl
  obtain rfl : f5 = .ref 39 := g 5 f5 rfl _ rfl
  obtain rfl : f6 = .ref 105 := g 6 f6 rfl _ rfl
  have r7 : f7 = .ref 110 ∨ f7 = .ref 115 := g 7 f7 rfl _ rfl
  have r8 : f8 = .ref 110 ∨ f8 = .ref 115 := g 8 f8 rfl _ rfl
  obtain rfl : f9 = .ref 120 := g 9 f9 rfl _ rfl
  obtain rfl : f10 = .ref 125 := g 10 f10 rfl _ rfl
  obtain rfl : f11 = .ref 129 := g 11 f11 rfl _ rfl
  obtain rfl : f12 = .ref 131 := g 12 f12 rfl _ rfl
  obtain ⟨x13, rfl, b13, d13⟩ := g 13 f13 rfl _ rfl
  obtain ⟨x14, rfl, b14, d14⟩ := g 14 f14 rfl _ rfl
  obtain ⟨x15, rfl, b15, d15⟩ := g 15 f15 rfl _ rfl
  obtain ⟨x16, rfl, b16, d16⟩ := g 16 f16 rfl _ rfl
  rcases r1 with rfl | rfl <;> rcases r2 with rfl | rfl <;> rcases r7 with rfl | rfl <;> rcases r8 with rfl | rfl
  · exact ⟨3, 3, 110, 110, x13, x14, x15, x16, e1, Or.inl rfl, Or.inl rfl, Or.inl rfl, Or.inl rfl⟩
  · exact ⟨3, 3, 110, 115, x13, x14, x15, x16, e1, Or.inl rfl, Or.inl rfl, Or.inl rfl, Or.inr rfl⟩
  · exact ⟨3, 3, 115, 110, x13, x14, x15, x16, e1, Or.inl rfl, Or.inl rfl, Or.inr rfl, Or.inl rfl⟩
  · exact ⟨3, 3, 115, 115, x13, x14, x15, x16, e1, Or.inl rfl, Or.inl rfl, Or.inr rfl, Or.inr rfl⟩
  · exact ⟨3, 13, 110, 110, x13, x14, x15, x16, e1, Or.inl rfl, Or.inr rfl, Or.inl rfl, Or.inl rfl⟩
  · exact ⟨3, 13, 110, 115, x13, x14, x15, x16, e1, Or.inl rfl, Or.inr rfl, Or.inl rfl, Or.inr rfl⟩
  · exact ⟨3, 13, 115, 110, x13, x14, x15, x16, e1, Or.inl rfl, Or.inr rfl, Or.inr rfl, Or.inl rfl⟩
  · exact ⟨3, 13, 115, 115, x13, x14, x15, x16, e1, Or.inl rfl, Or.inr rfl, Or.inr rfl, Or.inr rfl⟩
  · exact ⟨13, 3, 110, 110, x13, x14, x15, x16, e1, Or.inr rfl, Or.inl rfl, Or.inl rfl, Or.inl rfl⟩
  · exact ⟨13, 3, 110, 115, x13, x14, x15, x16, e1, Or.inr rfl, Or.inl rfl, Or.inl rfl, Or.inr rfl⟩
  · exact ⟨13, 3, 115, 110, x13, x14, x15, x16, e1, Or.inr rfl, Or.inl rfl, Or.inr rfl, Or.inl rfl⟩
  · exact ⟨13, 3, 115, 115, x13, x14, x15, x16, e1, Or.inr rfl, Or.inl rfl, Or.inr rfl, Or.inr rfl⟩
  · exact ⟨13, 13, 110, 110, x13, x14, x15, x16, e1, Or.inr rfl, Or.inr rfl, Or.inl rfl, Or.inl rfl⟩
  · exact ⟨13, 13, 110, 115, x13, x14, x15, x16, e1, Or.inr rfl, Or.inr rfl, Or.inl rfl, Or.inr rfl⟩
  · exact ⟨13, 13, 115, 110, x13, x14, x15, x16, e1, Or.inr rfl, Or.inr rfl, Or.inr rfl, Or.inl rfl⟩
  · exact ⟨13, 13, 115, 115, x13, x14, x15, x16, e1, Or.inr rfl, Or.inr rfl, Or.inr rfl, Or.inr rfl⟩
theorem oc_1 {hp : List AE} (h : hp_ok GG hp) : ∃ (n : Nat) (lim : Nat) (a : Nat) (kd : Nat) (pl : Nat) (w : Nat) (le : Int64) (nu : Int32) (tk : Int32) (fa : Int32) (fp : Int32), hp[1]? = some (.inr (9, [.ref 2, .int (Int32.ofNat n), .int (Int32.ofNat lim), .int (Int32.ofNat a), .int (Int32.ofNat kd), .int (Int32.ofNat pl), .retAddr w, .long le, .int nu, .int tk, .int fa, .int fp])) ∧ n ≤ 940 ∧ w < 32 := by
  obtain ⟨q1, q2⟩ := h.1 1 gc1 rfl
  obtain ⟨fs, e1, e2⟩ := hh_obj q1
  have g : ∀ i v, fs[i]? = some v → ∀ ft, lkp gc1.2.2 i = some ft → ft_ok ft v := fun i v hv ft hf => (q2 i v (by unfold hq; rw [e1]; exact hv)).2 ft hf
  obtain ⟨f0, fs0, rfl, k0⟩ := len_s e2
  obtain ⟨f1, fs1, rfl, k1⟩ := len_s k0
  obtain ⟨f2, fs2, rfl, k2⟩ := len_s k1
  obtain ⟨f3, fs3, rfl, k3⟩ := len_s k2
  obtain ⟨f4, fs4, rfl, k4⟩ := len_s k3
  obtain ⟨f5, fs5, rfl, k5⟩ := len_s k4
  obtain ⟨f6, fs6, rfl, k6⟩ := len_s k5
  obtain ⟨f7, fs7, rfl, k7⟩ := len_s k6
  obtain ⟨f8, fs8, rfl, k8⟩ := len_s k7
  obtain ⟨f9, fs9, rfl, k9⟩ := len_s k8
  obtain ⟨f10, fs10, rfl, k10⟩ := len_s k9
  obtain ⟨f11, fs11, rfl, k11⟩ := len_s k10
  obtain rfl := len_0 k11
  obtain rfl : f0 = .ref 2 := g 0 f0 rfl _ rfl
  obtain ⟨x1, rfl, b1, d1⟩ := g 1 f1 rfl _ rfl
  have z1 := i32_nz b1
  obtain ⟨x2, rfl, b2, d2⟩ := g 2 f2 rfl _ rfl
  obtain ⟨lim, rfl⟩ := i32_nat x2
  obtain ⟨x3, rfl, b3, d3⟩ := g 3 f3 rfl _ rfl
  obtain ⟨a, rfl⟩ := i32_nat x3
  obtain ⟨x4, rfl, b4, d4⟩ := g 4 f4 rfl _ rfl
  obtain ⟨kd, rfl⟩ := i32_nat x4
  obtain ⟨x5, rfl, b5, d5⟩ := g 5 f5 rfl _ rfl
  obtain ⟨pl, rfl⟩ := i32_nat x5
  obtain ⟨x6, rfl, d6⟩ := g 6 f6 rfl _ rfl
  obtain ⟨x7, rfl, -, -⟩ := g 7 f7 rfl _ rfl
  obtain ⟨x8, rfl, b8, d8⟩ := g 8 f8 rfl _ rfl
  obtain ⟨x9, rfl, b9, d9⟩ := g 9 f9 rfl _ rfl
  obtain ⟨x10, rfl, b10, d10⟩ := g 10 f10 rfl _ rfl
  obtain ⟨x11, rfl, b11, d11⟩ := g 11 f11 rfl _ rfl
  exact ⟨x1.toInt.toNat, lim, a, kd, pl, x6, x7, x8, x9, x10, x11, by rw [← z1]; exact e1, by omega, d6⟩
theorem oc_23 {hp : List AE} (h : hp_ok GG hp) : ∃ (c0 : Int32) (c1 : Int32) (c2 : Int32) (c3 : Int32) (c4 : Int32), hp[23]? = some (.inr (3, [.int c0, .int c1, .int c2, .int c3, .int c4, .ref 24, .ref 25, .ref 26, .ref 27, .ref 28, .ref 29, .ref 30])) := by
  obtain ⟨q1, q2⟩ := h.1 23 gc23 rfl
  obtain ⟨fs, e1, e2⟩ := hh_obj q1
  have g : ∀ i v, fs[i]? = some v → ∀ ft, lkp gc23.2.2 i = some ft → ft_ok ft v := fun i v hv ft hf => (q2 i v (by unfold hq; rw [e1]; exact hv)).2 ft hf
  obtain ⟨f0, fs0, rfl, k0⟩ := len_s e2
  obtain ⟨f1, fs1, rfl, k1⟩ := len_s k0
  obtain ⟨f2, fs2, rfl, k2⟩ := len_s k1
  obtain ⟨f3, fs3, rfl, k3⟩ := len_s k2
  obtain ⟨f4, fs4, rfl, k4⟩ := len_s k3
  obtain ⟨f5, fs5, rfl, k5⟩ := len_s k4
  obtain ⟨f6, fs6, rfl, k6⟩ := len_s k5
  obtain ⟨f7, fs7, rfl, k7⟩ := len_s k6
  obtain ⟨f8, fs8, rfl, k8⟩ := len_s k7
  obtain ⟨f9, fs9, rfl, k9⟩ := len_s k8
  obtain ⟨f10, fs10, rfl, k10⟩ := len_s k9
  obtain ⟨f11, fs11, rfl, k11⟩ := len_s k10
  obtain rfl := len_0 k11
  obtain ⟨x0, rfl, b0, d0⟩ := g 0 f0 rfl _ rfl
  obtain ⟨x1, rfl, b1, d1⟩ := g 1 f1 rfl _ rfl
  obtain ⟨x2, rfl, b2, d2⟩ := g 2 f2 rfl _ rfl
  obtain ⟨x3, rfl, b3, d3⟩ := g 3 f3 rfl _ rfl
  obtain ⟨x4, rfl, b4, d4⟩ := g 4 f4 rfl _ rfl
  obtain rfl : f5 = .ref 24 := g 5 f5 rfl _ rfl
  obtain rfl : f6 = .ref 25 := g 6 f6 rfl _ rfl
  obtain rfl : f7 = .ref 26 := g 7 f7 rfl _ rfl
  obtain rfl : f8 = .ref 27 := g 8 f8 rfl _ rfl
  obtain rfl : f9 = .ref 28 := g 9 f9 rfl _ rfl
  obtain rfl : f10 = .ref 29 := g 10 f10 rfl _ rfl
  obtain rfl : f11 = .ref 30 := g 11 f11 rfl _ rfl
  exact ⟨x0, x1, x2, x3, x4, e1⟩
theorem oc_39 {hp : List AE} (h : hp_ok GG hp) : ∃ (c1 : Int32) (c2 : Int32), hp[39]? = some (.inr (6, [.ref 40, .int c1, .int c2])) := by
  obtain ⟨q1, q2⟩ := h.1 39 gc39 rfl
  obtain ⟨fs, e1, e2⟩ := hh_obj q1
  have g : ∀ i v, fs[i]? = some v → ∀ ft, lkp gc39.2.2 i = some ft → ft_ok ft v := fun i v hv ft hf => (q2 i v (by unfold hq; rw [e1]; exact hv)).2 ft hf
  obtain ⟨f0, fs0, rfl, k0⟩ := len_s e2
  obtain ⟨f1, fs1, rfl, k1⟩ := len_s k0
  obtain ⟨f2, fs2, rfl, k2⟩ := len_s k1
  obtain rfl := len_0 k2
  obtain rfl : f0 = .ref 40 := g 0 f0 rfl _ rfl
  obtain ⟨x1, rfl, b1, d1⟩ := g 1 f1 rfl _ rfl
  obtain ⟨x2, rfl, b2, d2⟩ := g 2 f2 rfl _ rfl
  exact ⟨x1, x2, e1⟩
theorem oc_110 {hp : List AE} (h : hp_ok GG hp) : ∃ (c0 : Int32) (c1 : Int32), hp[110]? = some (.inr (7, [.int c0, .int c1, .ref 111, .ref 112, .ref 113, .ref 114])) := by
  obtain ⟨q1, q2⟩ := h.1 110 gc110 rfl
  obtain ⟨fs, e1, e2⟩ := hh_obj q1
  have g : ∀ i v, fs[i]? = some v → ∀ ft, lkp gc110.2.2 i = some ft → ft_ok ft v := fun i v hv ft hf => (q2 i v (by unfold hq; rw [e1]; exact hv)).2 ft hf
  obtain ⟨f0, fs0, rfl, k0⟩ := len_s e2
  obtain ⟨f1, fs1, rfl, k1⟩ := len_s k0
  obtain ⟨f2, fs2, rfl, k2⟩ := len_s k1
  obtain ⟨f3, fs3, rfl, k3⟩ := len_s k2
  obtain ⟨f4, fs4, rfl, k4⟩ := len_s k3
  obtain ⟨f5, fs5, rfl, k5⟩ := len_s k4
  obtain rfl := len_0 k5
  obtain ⟨x0, rfl, b0, d0⟩ := g 0 f0 rfl _ rfl
  obtain ⟨x1, rfl, b1, d1⟩ := g 1 f1 rfl _ rfl
  obtain rfl : f2 = .ref 111 := g 2 f2 rfl _ rfl
  obtain rfl : f3 = .ref 112 := g 3 f3 rfl _ rfl
  obtain rfl : f4 = .ref 113 := g 4 f4 rfl _ rfl
  obtain rfl : f5 = .ref 114 := g 5 f5 rfl _ rfl
  exact ⟨x0, x1, e1⟩
theorem oc_115 {hp : List AE} (h : hp_ok GG hp) : ∃ (c0 : Int32) (c1 : Int32), hp[115]? = some (.inr (7, [.int c0, .int c1, .ref 116, .ref 117, .ref 118, .ref 119])) := by
  obtain ⟨q1, q2⟩ := h.1 115 gc115 rfl
  obtain ⟨fs, e1, e2⟩ := hh_obj q1
  have g : ∀ i v, fs[i]? = some v → ∀ ft, lkp gc115.2.2 i = some ft → ft_ok ft v := fun i v hv ft hf => (q2 i v (by unfold hq; rw [e1]; exact hv)).2 ft hf
  obtain ⟨f0, fs0, rfl, k0⟩ := len_s e2
  obtain ⟨f1, fs1, rfl, k1⟩ := len_s k0
  obtain ⟨f2, fs2, rfl, k2⟩ := len_s k1
  obtain ⟨f3, fs3, rfl, k3⟩ := len_s k2
  obtain ⟨f4, fs4, rfl, k4⟩ := len_s k3
  obtain ⟨f5, fs5, rfl, k5⟩ := len_s k4
  obtain rfl := len_0 k5
  obtain ⟨x0, rfl, b0, d0⟩ := g 0 f0 rfl _ rfl
  obtain ⟨x1, rfl, b1, d1⟩ := g 1 f1 rfl _ rfl
  obtain rfl : f2 = .ref 116 := g 2 f2 rfl _ rfl
  obtain rfl : f3 = .ref 117 := g 3 f3 rfl _ rfl
  obtain rfl : f4 = .ref 118 := g 4 f4 rfl _ rfl
  obtain rfl : f5 = .ref 119 := g 5 f5 rfl _ rfl
  exact ⟨x0, x1, e1⟩
theorem oc_3 {hp : List AE} (h : hp_ok GG hp) : ∃ (P : Nat) (Dn : Nat) (lw : Int32) (cl : Int32) (id : Int32) (gl : Nat) (bo : Nat), hp[3]? = some (.inr (1, [.int (Int32.ofNat P), .int (Int32.ofNat Dn), .int lw, .int cl, .int id, .int (Int32.ofNat gl), .int (Int32.ofNat bo), .ref 4, .ref 5, .ref 6, .ref 9, .ref 10, .ref 11, .ref 12, .ref 7, .ref 8])) ∧ P ≤ 7 ∧ Dn ≤ 8 := by
  obtain ⟨q1, q2⟩ := h.1 3 gc3 rfl
  obtain ⟨fs, e1, e2⟩ := hh_obj q1
  have g : ∀ i v, fs[i]? = some v → ∀ ft, lkp gc3.2.2 i = some ft → ft_ok ft v := fun i v hv ft hf => (q2 i v (by unfold hq; rw [e1]; exact hv)).2 ft hf
  obtain ⟨f0, fs0, rfl, k0⟩ := len_s e2
  obtain ⟨f1, fs1, rfl, k1⟩ := len_s k0
  obtain ⟨f2, fs2, rfl, k2⟩ := len_s k1
  obtain ⟨f3, fs3, rfl, k3⟩ := len_s k2
  obtain ⟨f4, fs4, rfl, k4⟩ := len_s k3
  obtain ⟨f5, fs5, rfl, k5⟩ := len_s k4
  obtain ⟨f6, fs6, rfl, k6⟩ := len_s k5
  obtain ⟨f7, fs7, rfl, k7⟩ := len_s k6
  obtain ⟨f8, fs8, rfl, k8⟩ := len_s k7
  obtain ⟨f9, fs9, rfl, k9⟩ := len_s k8
  obtain ⟨f10, fs10, rfl, k10⟩ := len_s k9
  obtain ⟨f11, fs11, rfl, k11⟩ := len_s k10
  obtain ⟨f12, fs12, rfl, k12⟩ := len_s k11
  obtain ⟨f13, fs13, rfl, k13⟩ := len_s k12
  obtain ⟨f14, fs14, rfl, k14⟩ := len_s k13
  obtain ⟨f15, fs15, rfl, k15⟩ := len_s k14
  obtain rfl := len_0 k15
  obtain ⟨x0, rfl, b0, d0⟩ := g 0 f0 rfl _ rfl
  have z0 := i32_nz b0
  obtain ⟨x1, rfl, b1, d1⟩ := g 1 f1 rfl _ rfl
  have z1 := i32_nz b1
  obtain ⟨x2, rfl, b2, d2⟩ := g 2 f2 rfl _ rfl
  obtain ⟨x3, rfl, b3, d3⟩ := g 3 f3 rfl _ rfl
  obtain ⟨x4, rfl, b4, d4⟩ := g 4 f4 rfl _ rfl
  obtain ⟨x5, rfl, b5, d5⟩ := g 5 f5 rfl _ rfl
  obtain ⟨gl, rfl⟩ := i32_nat x5
  obtain ⟨x6, rfl, b6, d6⟩ := g 6 f6 rfl _ rfl
  obtain ⟨bo, rfl⟩ := i32_nat x6
  obtain rfl : f7 = .ref 4 := g 7 f7 rfl _ rfl
  obtain rfl : f8 = .ref 5 := g 8 f8 rfl _ rfl
  obtain rfl : f9 = .ref 6 := g 9 f9 rfl _ rfl
  obtain rfl : f10 = .ref 9 := g 10 f10 rfl _ rfl
  obtain rfl : f11 = .ref 10 := g 11 f11 rfl _ rfl
  obtain rfl : f12 = .ref 11 := g 12 f12 rfl _ rfl
  obtain rfl : f13 = .ref 12 := g 13 f13 rfl _ rfl
  obtain rfl : f14 = .ref 7 := g 14 f14 rfl _ rfl
  obtain rfl : f15 = .ref 8 := g 15 f15 rfl _ rfl
  exact ⟨x0.toInt.toNat, x1.toInt.toNat, x2, x3, x4, gl, bo, by rw [← z0, ← z1]; exact e1, by omega, by omega⟩
theorem oc_13 {hp : List AE} (h : hp_ok GG hp) : ∃ (P : Nat) (Dn : Nat) (lw : Int32) (cl : Int32) (id : Int32) (gl : Nat) (bo : Nat), hp[13]? = some (.inr (1, [.int (Int32.ofNat P), .int (Int32.ofNat Dn), .int lw, .int cl, .int id, .int (Int32.ofNat gl), .int (Int32.ofNat bo), .ref 14, .ref 15, .ref 16, .ref 19, .ref 20, .ref 21, .ref 22, .ref 17, .ref 18])) ∧ P ≤ 7 ∧ Dn ≤ 8 := by
  obtain ⟨q1, q2⟩ := h.1 13 gc13 rfl
  obtain ⟨fs, e1, e2⟩ := hh_obj q1
  have g : ∀ i v, fs[i]? = some v → ∀ ft, lkp gc13.2.2 i = some ft → ft_ok ft v := fun i v hv ft hf => (q2 i v (by unfold hq; rw [e1]; exact hv)).2 ft hf
  obtain ⟨f0, fs0, rfl, k0⟩ := len_s e2
  obtain ⟨f1, fs1, rfl, k1⟩ := len_s k0
  obtain ⟨f2, fs2, rfl, k2⟩ := len_s k1
  obtain ⟨f3, fs3, rfl, k3⟩ := len_s k2
  obtain ⟨f4, fs4, rfl, k4⟩ := len_s k3
  obtain ⟨f5, fs5, rfl, k5⟩ := len_s k4
  obtain ⟨f6, fs6, rfl, k6⟩ := len_s k5
  obtain ⟨f7, fs7, rfl, k7⟩ := len_s k6
  obtain ⟨f8, fs8, rfl, k8⟩ := len_s k7
  obtain ⟨f9, fs9, rfl, k9⟩ := len_s k8
  obtain ⟨f10, fs10, rfl, k10⟩ := len_s k9
  obtain ⟨f11, fs11, rfl, k11⟩ := len_s k10
  obtain ⟨f12, fs12, rfl, k12⟩ := len_s k11
  obtain ⟨f13, fs13, rfl, k13⟩ := len_s k12
  obtain ⟨f14, fs14, rfl, k14⟩ := len_s k13
  obtain ⟨f15, fs15, rfl, k15⟩ := len_s k14
  obtain rfl := len_0 k15
  obtain ⟨x0, rfl, b0, d0⟩ := g 0 f0 rfl _ rfl
  have z0 := i32_nz b0
  obtain ⟨x1, rfl, b1, d1⟩ := g 1 f1 rfl _ rfl
  have z1 := i32_nz b1
  obtain ⟨x2, rfl, b2, d2⟩ := g 2 f2 rfl _ rfl
  obtain ⟨x3, rfl, b3, d3⟩ := g 3 f3 rfl _ rfl
  obtain ⟨x4, rfl, b4, d4⟩ := g 4 f4 rfl _ rfl
  obtain ⟨x5, rfl, b5, d5⟩ := g 5 f5 rfl _ rfl
  obtain ⟨gl, rfl⟩ := i32_nat x5
  obtain ⟨x6, rfl, b6, d6⟩ := g 6 f6 rfl _ rfl
  obtain ⟨bo, rfl⟩ := i32_nat x6
  obtain rfl : f7 = .ref 14 := g 7 f7 rfl _ rfl
  obtain rfl : f8 = .ref 15 := g 8 f8 rfl _ rfl
  obtain rfl : f9 = .ref 16 := g 9 f9 rfl _ rfl
  obtain rfl : f10 = .ref 19 := g 10 f10 rfl _ rfl
  obtain rfl : f11 = .ref 20 := g 11 f11 rfl _ rfl
  obtain rfl : f12 = .ref 21 := g 12 f12 rfl _ rfl
  obtain rfl : f13 = .ref 22 := g 13 f13 rfl _ rfl
  obtain rfl : f14 = .ref 17 := g 14 f14 rfl _ rfl
  obtain rfl : f15 = .ref 18 := g 15 f15 rfl _ rfl
  exact ⟨x0.toInt.toNat, x1.toInt.toNat, x2, x3, x4, gl, bo, by rw [← z0, ← z1]; exact e1, by omega, by omega⟩
theorem oc_133 {hp : List AE} (h : hp_ok GG hp) : ∃ (P : Nat) (Dn : Nat) (lw : Int32) (cl : Int32) (id : Int32) (gl : Nat) (bo : Nat), hp[133]? = some (.inr (1, [.int (Int32.ofNat P), .int (Int32.ofNat Dn), .int lw, .int cl, .int id, .int (Int32.ofNat gl), .int (Int32.ofNat bo), .ref 134, .ref 135, .ref 136, .ref 139, .ref 140, .ref 141, .ref 142, .ref 137, .ref 138])) ∧ P ≤ 7 ∧ Dn ≤ 8 := by
  obtain ⟨q1, q2⟩ := h.1 133 gc133 rfl
  obtain ⟨fs, e1, e2⟩ := hh_obj q1
  have g : ∀ i v, fs[i]? = some v → ∀ ft, lkp gc133.2.2 i = some ft → ft_ok ft v := fun i v hv ft hf => (q2 i v (by unfold hq; rw [e1]; exact hv)).2 ft hf
  obtain ⟨f0, fs0, rfl, k0⟩ := len_s e2
  obtain ⟨f1, fs1, rfl, k1⟩ := len_s k0
  obtain ⟨f2, fs2, rfl, k2⟩ := len_s k1
  obtain ⟨f3, fs3, rfl, k3⟩ := len_s k2
  obtain ⟨f4, fs4, rfl, k4⟩ := len_s k3
  obtain ⟨f5, fs5, rfl, k5⟩ := len_s k4
  obtain ⟨f6, fs6, rfl, k6⟩ := len_s k5
  obtain ⟨f7, fs7, rfl, k7⟩ := len_s k6
  obtain ⟨f8, fs8, rfl, k8⟩ := len_s k7
  obtain ⟨f9, fs9, rfl, k9⟩ := len_s k8
  obtain ⟨f10, fs10, rfl, k10⟩ := len_s k9
  obtain ⟨f11, fs11, rfl, k11⟩ := len_s k10
  obtain ⟨f12, fs12, rfl, k12⟩ := len_s k11
  obtain ⟨f13, fs13, rfl, k13⟩ := len_s k12
  obtain ⟨f14, fs14, rfl, k14⟩ := len_s k13
  obtain ⟨f15, fs15, rfl, k15⟩ := len_s k14
  obtain rfl := len_0 k15
  obtain ⟨x0, rfl, b0, d0⟩ := g 0 f0 rfl _ rfl
  have z0 := i32_nz b0
  obtain ⟨x1, rfl, b1, d1⟩ := g 1 f1 rfl _ rfl
  have z1 := i32_nz b1
  obtain ⟨x2, rfl, b2, d2⟩ := g 2 f2 rfl _ rfl
  obtain ⟨x3, rfl, b3, d3⟩ := g 3 f3 rfl _ rfl
  obtain ⟨x4, rfl, b4, d4⟩ := g 4 f4 rfl _ rfl
  obtain ⟨x5, rfl, b5, d5⟩ := g 5 f5 rfl _ rfl
  obtain ⟨gl, rfl⟩ := i32_nat x5
  obtain ⟨x6, rfl, b6, d6⟩ := g 6 f6 rfl _ rfl
  obtain ⟨bo, rfl⟩ := i32_nat x6
  obtain rfl : f7 = .ref 134 := g 7 f7 rfl _ rfl
  obtain rfl : f8 = .ref 135 := g 8 f8 rfl _ rfl
  obtain rfl : f9 = .ref 136 := g 9 f9 rfl _ rfl
  obtain rfl : f10 = .ref 139 := g 10 f10 rfl _ rfl
  obtain rfl : f11 = .ref 140 := g 11 f11 rfl _ rfl
  obtain rfl : f12 = .ref 141 := g 12 f12 rfl _ rfl
  obtain rfl : f13 = .ref 142 := g 13 f13 rfl _ rfl
  obtain rfl : f14 = .ref 137 := g 14 f14 rfl _ rfl
  obtain rfl : f15 = .ref 138 := g 15 f15 rfl _ rfl
  exact ⟨x0.toInt.toNat, x1.toInt.toNat, x2, x3, x4, gl, bo, by rw [← z0, ← z1]; exact e1, by omega, by omega⟩
theorem oc_157 {hp : List AE} (h : hp_ok GG hp) : ∃ (P : Nat) (Dn : Nat) (lw : Int32) (cl : Int32) (id : Int32) (gl : Nat) (bo : Nat), hp[157]? = some (.inr (1, [.int (Int32.ofNat P), .int (Int32.ofNat Dn), .int lw, .int cl, .int id, .int (Int32.ofNat gl), .int (Int32.ofNat bo), .ref 158, .ref 159, .ref 160, .ref 163, .ref 164, .ref 165, .ref 166, .ref 161, .ref 162])) ∧ P ≤ 7 ∧ Dn ≤ 8 := by
  obtain ⟨q1, q2⟩ := h.1 157 gc157 rfl
  obtain ⟨fs, e1, e2⟩ := hh_obj q1
  have g : ∀ i v, fs[i]? = some v → ∀ ft, lkp gc157.2.2 i = some ft → ft_ok ft v := fun i v hv ft hf => (q2 i v (by unfold hq; rw [e1]; exact hv)).2 ft hf
  obtain ⟨f0, fs0, rfl, k0⟩ := len_s e2
  obtain ⟨f1, fs1, rfl, k1⟩ := len_s k0
  obtain ⟨f2, fs2, rfl, k2⟩ := len_s k1
  obtain ⟨f3, fs3, rfl, k3⟩ := len_s k2
  obtain ⟨f4, fs4, rfl, k4⟩ := len_s k3
  obtain ⟨f5, fs5, rfl, k5⟩ := len_s k4
  obtain ⟨f6, fs6, rfl, k6⟩ := len_s k5
  obtain ⟨f7, fs7, rfl, k7⟩ := len_s k6
  obtain ⟨f8, fs8, rfl, k8⟩ := len_s k7
  obtain ⟨f9, fs9, rfl, k9⟩ := len_s k8
  obtain ⟨f10, fs10, rfl, k10⟩ := len_s k9
  obtain ⟨f11, fs11, rfl, k11⟩ := len_s k10
  obtain ⟨f12, fs12, rfl, k12⟩ := len_s k11
  obtain ⟨f13, fs13, rfl, k13⟩ := len_s k12
  obtain ⟨f14, fs14, rfl, k14⟩ := len_s k13
  obtain ⟨f15, fs15, rfl, k15⟩ := len_s k14
  obtain rfl := len_0 k15
  obtain ⟨x0, rfl, b0, d0⟩ := g 0 f0 rfl _ rfl
  have z0 := i32_nz b0
  obtain ⟨x1, rfl, b1, d1⟩ := g 1 f1 rfl _ rfl
  have z1 := i32_nz b1
  obtain ⟨x2, rfl, b2, d2⟩ := g 2 f2 rfl _ rfl
  obtain ⟨x3, rfl, b3, d3⟩ := g 3 f3 rfl _ rfl
  obtain ⟨x4, rfl, b4, d4⟩ := g 4 f4 rfl _ rfl
  obtain ⟨x5, rfl, b5, d5⟩ := g 5 f5 rfl _ rfl
  obtain ⟨gl, rfl⟩ := i32_nat x5
  obtain ⟨x6, rfl, b6, d6⟩ := g 6 f6 rfl _ rfl
  obtain ⟨bo, rfl⟩ := i32_nat x6
  obtain rfl : f7 = .ref 158 := g 7 f7 rfl _ rfl
  obtain rfl : f8 = .ref 159 := g 8 f8 rfl _ rfl
  obtain rfl : f9 = .ref 160 := g 9 f9 rfl _ rfl
  obtain rfl : f10 = .ref 163 := g 10 f10 rfl _ rfl
  obtain rfl : f11 = .ref 164 := g 11 f11 rfl _ rfl
  obtain rfl : f12 = .ref 165 := g 12 f12 rfl _ rfl
  obtain rfl : f13 = .ref 166 := g 13 f13 rfl _ rfl
  obtain rfl : f14 = .ref 161 := g 14 f14 rfl _ rfl
  obtain rfl : f15 = .ref 162 := g 15 f15 rfl _ rfl
  exact ⟨x0.toInt.toNat, x1.toInt.toNat, x2, x3, x4, gl, bo, by rw [← z0, ← z1]; exact e1, by omega, by omega⟩
theorem oc_180 {hp : List AE} (h : hp_ok GG hp) : ∃ (p0 : Int32) (n : Nat) (sz : Nat) (lim : Nat) (a : Nat) (fr : Nat) (kd : Nat) (nu : Int32) (sg : Int32) (fa : Int32) (pl : Int32) (wd : Int64) (td : Int32) (sm : Int32) (pr : List Value), hp[180]? = some (.inr (11, .int p0 :: .ref 181 :: .int (Int32.ofNat n) :: .int (Int32.ofNat sz) :: .int (Int32.ofNat lim) :: .int (Int32.ofNat a) :: .int (Int32.ofNat fr) :: .int (Int32.ofNat kd) :: .int nu :: .int sg :: .int fa :: .int pl :: .long wd :: .int td :: .ref 182 :: .ref 183 :: .ref 184 :: .ref 185 :: .ref 186 :: .ref 187 :: .ref 188 :: .ref 189 :: .ref 190 :: .ref 191 :: .int sm :: pr)) ∧ n ≤ 940 := by
  obtain ⟨q1, q2⟩ := h.1 180 gc180 rfl
  obtain ⟨fs, e1, e2⟩ := hh_obj q1
  have g : ∀ i v, fs[i]? = some v → ∀ ft, lkp gc180.2.2 i = some ft → ft_ok ft v := fun i v hv ft hf => (q2 i v (by unfold hq; rw [e1]; exact hv)).2 ft hf
  obtain ⟨f0, fs0, rfl, k0⟩ := len_s e2
  obtain ⟨f1, fs1, rfl, k1⟩ := len_s k0
  obtain ⟨f2, fs2, rfl, k2⟩ := len_s k1
  obtain ⟨f3, fs3, rfl, k3⟩ := len_s k2
  obtain ⟨f4, fs4, rfl, k4⟩ := len_s k3
  obtain ⟨f5, fs5, rfl, k5⟩ := len_s k4
  obtain ⟨f6, fs6, rfl, k6⟩ := len_s k5
  obtain ⟨f7, fs7, rfl, k7⟩ := len_s k6
  obtain ⟨f8, fs8, rfl, k8⟩ := len_s k7
  obtain ⟨f9, fs9, rfl, k9⟩ := len_s k8
  obtain ⟨f10, fs10, rfl, k10⟩ := len_s k9
  obtain ⟨f11, fs11, rfl, k11⟩ := len_s k10
  obtain ⟨f12, fs12, rfl, k12⟩ := len_s k11
  obtain ⟨f13, fs13, rfl, k13⟩ := len_s k12
  obtain ⟨f14, fs14, rfl, k14⟩ := len_s k13
  obtain ⟨f15, fs15, rfl, k15⟩ := len_s k14
  obtain ⟨f16, fs16, rfl, k16⟩ := len_s k15
  obtain ⟨f17, fs17, rfl, k17⟩ := len_s k16
  obtain ⟨f18, fs18, rfl, k18⟩ := len_s k17
  obtain ⟨f19, fs19, rfl, k19⟩ := len_s k18
  obtain ⟨f20, fs20, rfl, k20⟩ := len_s k19
  obtain ⟨f21, fs21, rfl, k21⟩ := len_s k20
  obtain ⟨f22, fs22, rfl, k22⟩ := len_s k21
  obtain ⟨f23, fs23, rfl, k23⟩ := len_s k22
  obtain ⟨f24, fs24, rfl, k24⟩ := len_s k23
  obtain ⟨x0, rfl, b0, d0⟩ := g 0 f0 rfl _ rfl
  obtain rfl : f1 = .ref 181 := g 1 f1 rfl _ rfl
  obtain ⟨x2, rfl, b2, d2⟩ := g 2 f2 rfl _ rfl
  have z2 := i32_nz b2
  obtain ⟨x3, rfl, b3, d3⟩ := g 3 f3 rfl _ rfl
  obtain ⟨sz, rfl⟩ := i32_nat x3
  obtain ⟨x4, rfl, b4, d4⟩ := g 4 f4 rfl _ rfl
  obtain ⟨lim, rfl⟩ := i32_nat x4
  obtain ⟨x5, rfl, b5, d5⟩ := g 5 f5 rfl _ rfl
  obtain ⟨a, rfl⟩ := i32_nat x5
  obtain ⟨x6, rfl, b6, d6⟩ := g 6 f6 rfl _ rfl
  obtain ⟨fr, rfl⟩ := i32_nat x6
  obtain ⟨x7, rfl, b7, d7⟩ := g 7 f7 rfl _ rfl
  obtain ⟨kd, rfl⟩ := i32_nat x7
  obtain ⟨x8, rfl, b8, d8⟩ := g 8 f8 rfl _ rfl
  obtain ⟨x9, rfl, b9, d9⟩ := g 9 f9 rfl _ rfl
  obtain ⟨x10, rfl, b10, d10⟩ := g 10 f10 rfl _ rfl
  obtain ⟨x11, rfl, b11, d11⟩ := g 11 f11 rfl _ rfl
  obtain ⟨x12, rfl, -, -⟩ := g 12 f12 rfl _ rfl
  obtain ⟨x13, rfl, b13, d13⟩ := g 13 f13 rfl _ rfl
  obtain rfl : f14 = .ref 182 := g 14 f14 rfl _ rfl
  obtain rfl : f15 = .ref 183 := g 15 f15 rfl _ rfl
  obtain rfl : f16 = .ref 184 := g 16 f16 rfl _ rfl
  obtain rfl : f17 = .ref 185 := g 17 f17 rfl _ rfl
  obtain rfl : f18 = .ref 186 := g 18 f18 rfl _ rfl
  obtain rfl : f19 = .ref 187 := g 19 f19 rfl _ rfl
  obtain rfl : f20 = .ref 188 := g 20 f20 rfl _ rfl
  obtain rfl : f21 = .ref 189 := g 21 f21 rfl _ rfl
  obtain rfl : f22 = .ref 190 := g 22 f22 rfl _ rfl
  obtain rfl : f23 = .ref 191 := g 23 f23 rfl _ rfl
  obtain ⟨x24, rfl, b24, d24⟩ := g 24 f24 rfl _ rfl
  exact ⟨x0, x2.toInt.toNat, sz, lim, a, fr, kd, x8, x9, x10, x11, x12, x13, x24, fs24, by rw [← z2]; exact e1, by omega⟩
theorem lb_1 {H : List AE} (hlen : Nat.ble 204 H.length = true) {g c4 : Int32} {a7 : List Int32} {dd : Nat} {q : ev_R} : ∀ (r i : Nat) (a1 a2 a3 a4 a5 a6 : List Int32) (L : List (Nat × Value)), i + r = 7 → a1.length = 7 → a2.length = 7 → a3.length = 7 → a4.length = 7 → a5.length = 7 → a6.length = 7 → ev_g L 0 = some (.ref 23) → ev_g L 2 = some (.int (Int32.ofNat i)) → (∀ L2, ev_g L2 0 = some (.ref 23) → RT MM dd 91 76 L2 [] (ov H [(23, .inr (3, [.int (Int32.ofNat 0), .int (Int32.ofNat 0), .int (Int32.ofNat 0), .int g, .int c4, .ref 24, .ref 25, .ref 26, .ref 27, .ref 28, .ref 29, .ref 30])), (24, ia (fl (Int32.ofNat 0) a1 r i)), (25, ia (fl (Int32.ofNat 0) a2 r i)), (26, ia (fl (Int32.ofNat 0) a3 r i)), (27, ia (fl (Int32.ofNat 0) a4 r i)), (28, ia (fl (-1 : Int32) a5 r i)), (29, ia (fl (Int32.ofNat 0) a6 r i)), (30, ia a7)]) q) → RT MM dd 91 22 L [] (ov H [(23, .inr (3, [.int (Int32.ofNat 0), .int (Int32.ofNat 0), .int (Int32.ofNat 0), .int g, .int c4, .ref 24, .ref 25, .ref 26, .ref 27, .ref 28, .ref 29, .ref 30])), (24, ia a1), (25, ia a2), (26, ia a3), (27, ia a4), (28, ia a5), (29, ia a6), (30, ia a7)]) q := by
  intro r
  induction r with
  | zero =>
    intro i a1 a2 a3 a4 a5 a6 L hi k1 k2 k3 k4 k5 k6 l0 l2 h
    have hi : i = 7 := by omega
    subst hi
    refine rt_ild rfl l2 ?_
    refine rt_bip rfl k8_7 ?_
    refine biT_ge rfl (n_le (Nat.le_refl _) (by decide)) ?_
    exact h L l0
  | succ r ih =>
    intro i a1 a2 a3 a4 a5 a6 L hi k1 k2 k3 k4 k5 k6 l0 l2 h
    refine rt_ild rfl l2 ?_
    refine rt_bip rfl k8_7 ?_
    refine biF_ge rfl (n_nle (by omega) (by decide)) ?_
    refine rt_ald rfl l0 ?_
    refine ow_gf rfl rfl rfl hlen rfl ?_
    refine rt_ild rfl l2 ?_
    refine rt_ico rfl ki_0 ?_
    refine ow_iasN rfl rfl (by omega) (by omega) hlen rfl rfl ?_
    refine rt_ald rfl l0 ?_
    refine ow_gf rfl rfl rfl hlen rfl ?_
    refine rt_ild rfl l2 ?_
    refine rt_ico rfl ki_0 ?_
    refine ow_iasN rfl rfl (by omega) (by omega) hlen rfl rfl ?_
    refine rt_ald rfl l0 ?_
    refine ow_gf rfl rfl rfl hlen rfl ?_
    refine rt_ild rfl l2 ?_
    refine rt_ico rfl ki_0 ?_
    refine ow_iasN rfl rfl (by omega) (by omega) hlen rfl rfl ?_
    refine rt_ald rfl l0 ?_
    refine ow_gf rfl rfl rfl hlen rfl ?_
    refine rt_ild rfl l2 ?_
    refine rt_ico rfl ki_0 ?_
    refine ow_iasN rfl rfl (by omega) (by omega) hlen rfl rfl ?_
    refine rt_ald rfl l0 ?_
    refine ow_gf rfl rfl rfl hlen rfl ?_
    refine rt_ild rfl l2 ?_
    refine rt_ico rfl ki_m1 ?_
    refine ow_iasN rfl rfl (by omega) (by omega) hlen rfl rfl ?_
    refine rt_ald rfl l0 ?_
    refine ow_gf rfl rfl rfl hlen rfl ?_
    refine rt_ild rfl l2 ?_
    refine rt_ico rfl ki_0 ?_
    refine ow_iasN rfl rfl (by omega) (by omega) hlen rfl rfl ?_
    refine rt_inc rfl l2 (by decide +kernel) ?_
    rw [in_1]
    refine RT_step (pc2 := 22) rfl (fun _ _ => rfl) ?_
    exact ih (i + 1) _ _ _ _ _ _ _ (by omega) (by rw [List.length_set]; assumption) (by rw [List.length_set]; assumption) (by rw [List.length_set]; assumption) (by rw [List.length_set]; assumption) (by rw [List.length_set]; assumption) (by rw [List.length_set]; assumption) (gs_o rfl l0 rfl) gs_n h
theorem lb_2 {H : List AE} (hlen : Nat.ble 204 H.length = true) {g c4 : Int32} {a1 a2 a3 a4 a5 a6 : List Int32} {dd : Nat} {q : ev_R} : ∀ (r i : Nat) (a7 : List Int32) (L : List (Nat × Value)), i + r = 8 → a7.length = 8 → ev_g L 0 = some (.ref 23) → ev_g L 2 = some (.int (Int32.ofNat i)) → (∀ L2, ev_g L2 0 = some (.ref 23) → RT MM dd 91 97 L2 [] (ov H [(23, .inr (3, [.int (Int32.ofNat 0), .int (Int32.ofNat 0), .int (Int32.ofNat 0), .int g, .int c4, .ref 24, .ref 25, .ref 26, .ref 27, .ref 28, .ref 29, .ref 30])), (24, ia a1), (25, ia a2), (26, ia a3), (27, ia a4), (28, ia a5), (29, ia a6), (30, ia (fl (Int32.ofNat 0) a7 r i))]) q) → RT MM dd 91 78 L [] (ov H [(23, .inr (3, [.int (Int32.ofNat 0), .int (Int32.ofNat 0), .int (Int32.ofNat 0), .int g, .int c4, .ref 24, .ref 25, .ref 26, .ref 27, .ref 28, .ref 29, .ref 30])), (24, ia a1), (25, ia a2), (26, ia a3), (27, ia a4), (28, ia a5), (29, ia a6), (30, ia a7)]) q := by
  intro r
  induction r with
  | zero =>
    intro i a7 L hi k7 l0 l2 h
    have hi : i = 8 := by omega
    subst hi
    refine rt_ild rfl l2 ?_
    refine rt_bip rfl k8_8 ?_
    refine biT_ge rfl (n_le (Nat.le_refl _) (by decide)) ?_
    exact h L l0
  | succ r ih =>
    intro i a7 L hi k7 l0 l2 h
    refine rt_ild rfl l2 ?_
    refine rt_bip rfl k8_8 ?_
    refine biF_ge rfl (n_nle (by omega) (by decide)) ?_
    refine rt_ald rfl l0 ?_
    refine ow_gf rfl rfl rfl hlen rfl ?_
    refine rt_ild rfl l2 ?_
    refine rt_ico rfl ki_0 ?_
    refine ow_iasN rfl rfl (by omega) (by omega) hlen rfl rfl ?_
    refine rt_inc rfl l2 (by decide +kernel) ?_
    rw [in_1]
    refine RT_step (pc2 := 78) rfl (fun _ _ => rfl) ?_
    exact ih (i + 1) _ _ (by omega) (by rw [List.length_set]; exact k7) (gs_o rfl l0 rfl) gs_n h
theorem x_begin {H : List AE} (hlen : Nat.ble 204 H.length = true) {c0 c1 c2 c3 c4 g : Int32} {a1 a2 a3 a4 a5 a6 a7 : List Int32} (h0 : H[23]? = some (.inr (3, [.int c0, .int c1, .int c2, .int c3, .int c4, .ref 24, .ref 25, .ref 26, .ref 27, .ref 28, .ref 29, .ref 30]))) (h1 : H[24]? = some (ia a1)) (h2 : H[25]? = some (ia a2)) (h3 : H[26]? = some (ia a3)) (h4 : H[27]? = some (ia a4)) (h5 : H[28]? = some (ia a5)) (h6 : H[29]? = some (ia a6)) (h7 : H[30]? = some (ia a7)) (k1 : a1.length = 7) (k2 : a2.length = 7) (k3 : a3.length = 7) (k4 : a4.length = 7) (k5 : a5.length = 7) (k6 : a6.length = 7) (k7 : a7.length = 8) : FR 1 91 [.ref 23, .int g] H (none, ov H [(23, .inr (3, [.int (Int32.ofNat 0), .int (Int32.ofNat 0), .int (Int32.ofNat 0), .int g, .int c4, .ref 24, .ref 25, .ref 26, .ref 27, .ref 28, .ref 29, .ref 30])), (24, ia (fl (Int32.ofNat 0) a1 7 0)), (25, ia (fl (Int32.ofNat 0) a2 7 0)), (26, ia (fl (Int32.ofNat 0) a3 7 0)), (27, ia (fl (Int32.ofNat 0) a4 7 0)), (28, ia (fl (-1 : Int32) a5 7 0)), (29, ia (fl (Int32.ofNat 0) a6 7 0)), (30, ia (fl (Int32.ofNat 0) a7 8 0))]) := by
  refine FR_ov (l := [(23, .inr (3, [.int c0, .int c1, .int c2, .int c3, .int c4, .ref 24, .ref 25, .ref 26, .ref 27, .ref 28, .ref 29, .ref 30])), (24, ia a1), (25, ia a2), (26, ia a3), (27, ia a4), (28, ia a5), (29, ia a6), (30, ia a7)]) (l2 := [(23, .inr (3, [.int (Int32.ofNat 0), .int (Int32.ofNat 0), .int (Int32.ofNat 0), .int g, .int c4, .ref 24, .ref 25, .ref 26, .ref 27, .ref 28, .ref 29, .ref 30])), (24, ia (fl (Int32.ofNat 0) a1 7 0)), (25, ia (fl (Int32.ofNat 0) a2 7 0)), (26, ia (fl (Int32.ofNat 0) a3 7 0)), (27, ia (fl (Int32.ofNat 0) a4 7 0)), (28, ia (fl (-1 : Int32) a5 7 0)), (29, ia (fl (Int32.ofNat 0) a6 7 0)), (30, ia (fl (Int32.ofNat 0) a7 8 0))]) (ov_id h0 (ov_id h1 (ov_id h2 (ov_id h3 (ov_id h4 (ov_id h5 (ov_id h6 (ov_c1 h7)))))))) rfl rfl ?_
  refine RT_step (pc2 := 1) rfl (fun _ _ => rfl) ?_
  refine rt_ico rfl ki_0 ?_
  refine ow_pf rfl rfl rfl rfl rfl hlen rfl rfl ?_
  refine RT_step (pc2 := 6) rfl (fun _ _ => rfl) ?_
  refine rt_ico rfl ki_0 ?_
  refine ow_pf rfl rfl rfl rfl rfl hlen rfl rfl ?_
  refine RT_step (pc2 := 11) rfl (fun _ _ => rfl) ?_
  refine rt_ico rfl ki_0 ?_
  refine ow_pf rfl rfl rfl rfl rfl hlen rfl rfl ?_
  refine RT_step (pc2 := 16) rfl (fun _ _ => rfl) ?_
  refine RT_step (pc2 := 17) rfl (fun _ _ => rfl) ?_
  refine ow_pf rfl rfl rfl rfl rfl hlen rfl rfl ?_
  refine rt_ico rfl ki_0 ?_
  refine RT_step (pc2 := 22) rfl (fun _ _ => rfl) ?_
  refine lb_1 hlen 7 0 a1 a2 a3 a4 a5 a6 _ rfl k1 k2 k3 k4 k5 k6 rfl rfl (fun L2 l0 => ?_)
  refine rt_ico rfl ki_0 ?_
  refine rt_ist rfl (by decide +kernel) ?_
  refine lb_2 hlen 8 0 a7 _ rfl k7 (gs_o rfl l0 rfl) gs_n (fun L3 l3 => ?_)
  exact ow_ret rfl rfl rfl
theorem ss_a {H : List AE} (hlen : Nat.ble 204 H.length = true) {p0 p2 nu sg fa pl td : Int32} {sz lim a fr kd : Nat} {wd : Int64} {pr : List Value} {dd : Nat} {q : ev_R} : ∀ (r i : Nat) (nw : List Int32) (L : List (Nat × Value)), i + r = 396 → nw.length = 396 → ev_g L 0 = some (.ref 180) → ev_g L 1 = some (.int (Int32.ofNat i)) → (∀ L2, ev_g L2 0 = some (.ref 180) → RT MM dd 280 23 L2 [] (ov H [(180, mcl p0 p2 sz lim a fr kd nu sg fa pl wd td (pof pr)), (182, ia (fl (Int32.ofNat 0) nw r i))]) q) → RT MM dd 280 3 L [] (ov H [(180, mcl p0 p2 sz lim a fr kd nu sg fa pl wd td (pof pr)), (182, ia nw)]) q := by
  intro r
  induction r with
  | zero =>
    intro i nw L hi k l0 l1 h
    have hi : i = 396 := by omega
    subst hi
    refine rt_ild rfl l1 ?_
    refine rt_sip rfl k16_396 ?_
    refine biT_ge rfl (n_le (Nat.le_refl _) (by decide)) ?_
    exact h L l0
  | succ r ih =>
    intro i nw L hi k l0 l1 h
    refine rt_ild rfl l1 ?_
    refine rt_sip rfl k16_396 ?_
    refine biF_ge rfl (n_nle (by omega) (by decide)) ?_
    refine rt_ald rfl l0 ?_
    refine ow_gf rfl rfl rfl hlen rfl ?_
    refine rt_ild rfl l1 ?_
    refine rt_ico rfl ki_0 ?_
    refine ow_iasN rfl rfl (by omega) (by omega) hlen rfl rfl ?_
    refine rt_inc rfl l1 (by decide +kernel) ?_
    rw [in_1]
    refine RT_step (pc2 := 3) rfl (fun _ _ => rfl) ?_
    exact ih (i + 1) _ _ (by omega) (by rw [List.length_set]; exact k) (gs_o rfl l0 rfl) gs_n h
theorem ss_b {H : List AE} (hlen : Nat.ble 204 H.length = true) {p0 p2 nu sg fa pl td : Int32} {sz lim a fr kd : Nat} {wd : Int64} {pr : List Value} {dd : Nat} {q : ev_R} : ∀ (r i : Nat) (nw : List Int32) (L : List (Nat × Value)), i + r = 7 → nw.length = 396 → ev_g L 0 = some (.ref 180) → ev_g L 1 = some (.int (Int32.ofNat i)) → (∀ L2, ev_g L2 0 = some (.ref 180) → RT MM dd 280 62 L2 [] (ov H [(180, mcl p0 p2 sz lim a fr kd nu sg fa pl wd td (pof pr)), (182, ia (fl (-1 : Int32) nw r (132 + i)))]) q) → RT MM dd 280 39 L [] (ov H [(180, mcl p0 p2 sz lim a fr kd nu sg fa pl wd td (pof pr)), (182, ia nw)]) q := by
  intro r
  induction r with
  | zero =>
    intro i nw L hi k l0 l1 h
    have hi : i = 7 := by omega
    subst hi
    refine rt_ild rfl l1 ?_
    refine rt_bip rfl k8_7 ?_
    refine biT_ge rfl (n_le (Nat.le_refl _) (by decide)) ?_
    exact h L l0
  | succ r ih =>
    intro i nw L hi k l0 l1 h
    refine rt_ild rfl l1 ?_
    refine rt_bip rfl k8_7 ?_
    refine biF_ge rfl (n_nle (by omega) (by decide)) ?_
    refine rt_ald rfl l0 ?_
    refine ow_gf rfl rfl rfl hlen rfl ?_
    refine rt_sip rfl k16_132 ?_
    refine rt_ild rfl l1 ?_
    refine ba_iadd rfl ?_
    rw [n_add]
    refine rt_ico rfl ki_m1 ?_
    refine ow_iasN rfl rfl (by omega) (by omega) hlen rfl rfl ?_
    refine rt_inc rfl l1 (by decide +kernel) ?_
    rw [in_1]
    refine RT_step (pc2 := 39) rfl (fun _ _ => rfl) ?_
    exact ih (i + 1) _ _ (by omega) (by rw [List.length_set]; exact k) (gs_o rfl l0 rfl) gs_n h
theorem m_startSo {H : List AE} (hlen : Nat.ble 204 H.length = true) {p0 p2 nu sg fa pl td : Int32} {sz lim a fr kd : Nat} {wd : Int64} {pr : List Value} {nw : List Int32} {v : Int32} (h0 : H[180]? = some (mcl p0 p2 sz lim a fr kd nu sg fa pl wd td (pof pr))) (h1 : H[182]? = some (ia nw)) (k : nw.length = 396) (hv : nw[19]? = some v) : FR 1 280 [.ref 180] H (none, ov H [(180, mcl p0 p2 sz lim a fr kd nu sg fa pl wd td (pof pr)), (182, ia (fl (-1 : Int32) ((fl (Int32.ofNat 0) nw 295 101).set 102 v) 7 (132 + 0)))]) := by
  refine FR_ov (l := [(180, mcl p0 p2 sz lim a fr kd nu sg fa pl wd td (pof pr)), (182, ia nw)]) (l2 := [(180, mcl p0 p2 sz lim a fr kd nu sg fa pl wd td (pof pr)), (182, ia (fl (-1 : Int32) ((fl (Int32.ofNat 0) nw 295 101).set 102 v) 7 (132 + 0)))]) (ov_id h0 (ov_c1 h1)) rfl rfl ?_
  have e1 : (fl (Int32.ofNat 0) nw 295 101)[19]? = some v := by rw [fl_no (Or.inl (by decide))]; exact hv
  have e2 : (fl (Int32.ofNat 0) nw 295 101).length = 396 := by rw [fl_len]; exact k
  refine rt_bip rfl k8_101 ?_
  refine RT_step (pc2 := 3) rfl (fun _ _ => rfl) ?_
  refine ss_a hlen 295 101 nw _ rfl k rfl rfl (fun L2 l0 => ?_)
  refine rt_ald rfl l0 ?_
  refine ow_gf rfl rfl rfl hlen rfl ?_
  refine rt_bip rfl k8_102 ?_
  refine rt_ald rfl l0 ?_
  refine ow_gf rfl rfl rfl hlen rfl ?_
  refine rt_bip rfl k8_19 ?_
  refine ow_ialN rfl rfl e1 (by omega) hlen rfl ?_
  refine ow_iasN rfl rfl (by omega) (by omega) hlen rfl rfl ?_
  refine rt_ico rfl ki_0 ?_
  refine rt_ist rfl (by decide +kernel) ?_
  refine ss_b hlen 7 0 _ _ rfl (by rw [List.length_set]; exact e2) (gs_o rfl l0 rfl) gs_n (fun L3 l3 => ?_)
  exact ow_ret rfl rfl rfl
end
section
theorem k8_15 : (Int8.ofInt 15).toInt32 = Int32.ofNat 15 := by decide +kernel
/-! ===== duchy(), in full ===== -/
theorem x_takeFault {H : List AE} (hlen : Nat.ble 204 H.length = true) {d s se ss n lim a kd pl w : Nat} {lt fb tq gb nu tk fa fp : Int32} {le : Int64} (h0 : H[0]? = some (.inr (10, [.ref 1, .ref d, .ref s, .ref 23, .ref 31, .ref 39, .ref 105, .ref se, .ref ss, .ref 120, .ref 125, .ref 129, .ref 131, .int lt, .int fb, .int tq, .int gb]))) (h1 : H[1]? = some (tcl n lim a kd pl w le nu tk fa fp)) : FR 1 41 [.ref 0] H (none, ov H [(0, .inr (10, [.ref 1, .ref d, .ref s, .ref 23, .ref 31, .ref 39, .ref 105, .ref se, .ref ss, .ref 120, .ref 125, .ref 129, .ref 131, .int fa, .int fb, .int tq, .int gb])), (1, tcl 0 lim a kd pl w le nu tk fa fp)]) := by
  refine FR_ov (l := [(0, .inr (10, [.ref 1, .ref d, .ref s, .ref 23, .ref 31, .ref 39, .ref 105, .ref se, .ref ss, .ref 120, .ref 125, .ref 129, .ref 131, .int lt, .int fb, .int tq, .int gb])), (1, tcl n lim a kd pl w le nu tk fa fp)]) (l2 := [(0, .inr (10, [.ref 1, .ref d, .ref s, .ref 23, .ref 31, .ref 39, .ref 105, .ref se, .ref ss, .ref 120, .ref 125, .ref 129, .ref 131, .int fa, .int fb, .int tq, .int gb])), (1, tcl 0 lim a kd pl w le nu tk fa fp)]) (ov_id h0 (ov_c1 h1)) rfl rfl ?_
  refine RT_step (pc2 := 1) rfl (fun _ _ => rfl) ?_
  refine RT_step (pc2 := 2) rfl (fun _ _ => rfl) ?_
  refine ow_gf rfl rfl rfl hlen rfl ?_
  refine ow_gf rfl rfl rfl hlen rfl ?_
  refine ow_pf rfl rfl rfl rfl rfl hlen rfl rfl ?_
  refine RT_step (pc2 := 12) rfl (fun _ _ => rfl) ?_
  refine ow_gf rfl rfl rfl hlen rfl ?_
  refine rt_ico rfl ki_0 ?_
  refine ow_pf rfl rfl rfl rfl rfl hlen rfl rfl ?_
  exact ow_ret rfl rfl rfl
theorem x_forget {H : List AE} (hlen : Nat.ble 204 H.length = true) {c1 c2 : Int32} (h0 : H[39]? = some (.inr (6, [.ref 40, .int c1, .int c2]))) : FR 1 129 [.ref 39] H (none, ov H [(39, .inr (6, [.ref 40, .int c1, .int (Int32.ofNat 0)]))]) := by
  refine FR_ov (l := [(39, .inr (6, [.ref 40, .int c1, .int c2]))]) (l2 := [(39, .inr (6, [.ref 40, .int c1, .int (Int32.ofNat 0)]))]) (ov_c1 h0) rfl rfl ?_
  refine RT_step (pc2 := 1) rfl (fun _ _ => rfl) ?_
  refine rt_ico rfl ki_0 ?_
  refine ow_pf rfl rfl rfl rfl rfl hlen rfl rfl ?_
  exact ow_ret rfl rfl rfl
theorem x_sclear110 {H : List AE} (hlen : Nat.ble 204 H.length = true) {e0 e1 : Int32} (h0 : H[110]? = some (.inr (7, [.int e0, .int e1, .ref 111, .ref 112, .ref 113, .ref 114]))) : FR 1 136 [.ref 110] H (none, ov H [(110, .inr (7, [.int (Int32.ofNat 0), .int (Int32.ofNat 0), .ref 111, .ref 112, .ref 113, .ref 114]))]) := by
  refine FR_ov (l := [(110, .inr (7, [.int e0, .int e1, .ref 111, .ref 112, .ref 113, .ref 114]))]) (l2 := [(110, .inr (7, [.int (Int32.ofNat 0), .int (Int32.ofNat 0), .ref 111, .ref 112, .ref 113, .ref 114]))]) (ov_c1 h0) rfl rfl ?_
  refine RT_step (pc2 := 1) rfl (fun _ _ => rfl) ?_
  refine rt_ico rfl ki_0 ?_
  refine ow_pf rfl rfl rfl rfl rfl hlen rfl rfl ?_
  refine RT_step (pc2 := 6) rfl (fun _ _ => rfl) ?_
  refine rt_ico rfl ki_0 ?_
  refine ow_pf rfl rfl rfl rfl rfl hlen rfl rfl ?_
  exact ow_ret rfl rfl rfl
theorem x_sclear115 {H : List AE} (hlen : Nat.ble 204 H.length = true) {e0 e1 : Int32} (h0 : H[115]? = some (.inr (7, [.int e0, .int e1, .ref 116, .ref 117, .ref 118, .ref 119]))) : FR 1 136 [.ref 115] H (none, ov H [(115, .inr (7, [.int (Int32.ofNat 0), .int (Int32.ofNat 0), .ref 116, .ref 117, .ref 118, .ref 119]))]) := by
  refine FR_ov (l := [(115, .inr (7, [.int e0, .int e1, .ref 116, .ref 117, .ref 118, .ref 119]))]) (l2 := [(115, .inr (7, [.int (Int32.ofNat 0), .int (Int32.ofNat 0), .ref 116, .ref 117, .ref 118, .ref 119]))]) (ov_c1 h0) rfl rfl ?_
  refine RT_step (pc2 := 1) rfl (fun _ _ => rfl) ?_
  refine rt_ico rfl ki_0 ?_
  refine ow_pf rfl rfl rfl rfl rfl hlen rfl rfl ?_
  refine RT_step (pc2 := 6) rfl (fun _ _ => rfl) ?_
  refine rt_ico rfl ki_0 ?_
  refine ow_pf rfl rfl rfl rfl rfl hlen rfl rfl ?_
  exact ow_ret rfl rfl rfl
theorem du_cn {H : List AE} (hlen : Nat.ble 204 H.length = true) {p0 p2 nu sg fa pl td : Int32} {sz lim a fr kd : Nat} {wd : Int64} {pr : List Value} {ts : List Int32} {rd on : List Int32} {rn : List Int64} {nz : List Int64} {dd : Nat} {zz : Value} (hz : zz.category = 1) (hs : rd.length = 101) {q : ev_R} : ∀ (r i : Nat) (arr : List Int32) (L : List (Nat × Value)), i + r = 101 → arr.length = 396 → ev_g L 0 = some (.ref 180) → ev_g L 1 = some zz → ev_g L 2 = some (.int (Int32.ofNat i)) → (∀ L2, ev_g L2 0 = some (.ref 180) → ev_g L2 1 = some zz → RT MM dd 195 132 L2 [] (ov H [(182, ia (cpl rd arr r i)), (187, lng nz), (191, zb on), (188, lng rn), (183, ia rd), (181, mtl ts), (180, mcl p0 p2 sz lim a fr kd nu sg fa pl wd td (pof pr))]) q) → RT MM dd 195 108 L [] (ov H [(182, ia arr), (187, lng nz), (191, zb on), (188, lng rn), (183, ia rd), (181, mtl ts), (180, mcl p0 p2 sz lim a fr kd nu sg fa pl wd td (pof pr))]) q := by
  intro r
  induction r with
  | zero =>
    intro i arr L hi k l0 l1 l2 h
    have hi : i = 101 := by omega
    subst hi
    refine rt_ild rfl l2 ?_
    refine rt_bip rfl k8_101 ?_
    refine biT_ge rfl (n_le (Nat.le_refl _) (by decide)) ?_
    exact h L l0 l1
  | succ r ih =>
    intro i arr L hi k l0 l1 l2 h
    have e := gd_i (arr := rd) (i := i) (by omega)
    rw [cpl_s e] at h
    refine rt_ild rfl l2 ?_
    refine rt_bip rfl k8_101 ?_
    refine biF_ge rfl (n_nle (by omega) (by decide)) ?_
    refine rt_ald rfl l0 ?_
    refine ow_gf rfl rfl rfl hlen rfl ?_
    refine rt_ild rfl l2 ?_
    refine rt_ald rfl l0 ?_
    refine ow_gf rfl rfl rfl hlen rfl ?_
    refine rt_ild rfl l2 ?_
    refine ow_ialN rfl rfl e (by omega) hlen rfl ?_
    refine ow_iasN rfl rfl (by omega) (by omega) hlen rfl rfl ?_
    refine rt_inc rfl l2 (by decide +kernel) ?_
    rw [in_1]
    refine RT_step (pc2 := 108) rfl (fun _ _ => rfl) ?_
    exact ih (i + 1) _ _ (by omega) (by rw [List.length_set]; exact k) (gs_o rfl l0 rfl) (gs_o rfl l1 hz) gs_n h
theorem du_cz {H : List AE} (hlen : Nat.ble 204 H.length = true) {p0 p2 nu sg fa pl td : Int32} {sz lim a fr kd : Nat} {wd : Int64} {pr : List Value} {ts : List Int32} {rd on : List Int32} {rn : List Int64} {nw : List Int32} {dd : Nat} {zz : Value} (hz : zz.category = 1) (hs : rn.length = 15) {q : ev_R} : ∀ (r i : Nat) (arr : List Int64) (L : List (Nat × Value)), i + r = 15 → arr.length = 15 → ev_g L 0 = some (.ref 180) → ev_g L 1 = some zz → ev_g L 2 = some (.int (Int32.ofNat i)) → (∀ L2, ev_g L2 0 = some (.ref 180) → ev_g L2 1 = some zz → RT MM dd 195 158 L2 [] (ov H [(182, ia nw), (187, lng (cpl rn arr r i)), (191, zb on), (188, lng rn), (183, ia rd), (181, mtl ts), (180, mcl p0 p2 sz lim a fr kd nu sg fa pl wd td (pof pr))]) q) → RT MM dd 195 134 L [] (ov H [(182, ia nw), (187, lng arr), (191, zb on), (188, lng rn), (183, ia rd), (181, mtl ts), (180, mcl p0 p2 sz lim a fr kd nu sg fa pl wd td (pof pr))]) q := by
  intro r
  induction r with
  | zero =>
    intro i arr L hi k l0 l1 l2 h
    have hi : i = 15 := by omega
    subst hi
    refine rt_ild rfl l2 ?_
    refine rt_bip rfl k8_15 ?_
    refine biT_ge rfl (n_le (Nat.le_refl _) (by decide)) ?_
    exact h L l0 l1
  | succ r ih =>
    intro i arr L hi k l0 l1 l2 h
    have e := gd_i (arr := rn) (i := i) (by omega)
    rw [cpl_s e] at h
    refine rt_ild rfl l2 ?_
    refine rt_bip rfl k8_15 ?_
    refine biF_ge rfl (n_nle (by omega) (by decide)) ?_
    refine rt_ald rfl l0 ?_
    refine ow_gf rfl rfl rfl hlen rfl ?_
    refine rt_ild rfl l2 ?_
    refine rt_ald rfl l0 ?_
    refine ow_gf rfl rfl rfl hlen rfl ?_
    refine rt_ild rfl l2 ?_
    refine ow_lalN rfl rfl e (by omega) hlen rfl ?_
    refine ow_lasN rfl rfl (by omega) (by omega) hlen rfl rfl ?_
    refine rt_inc rfl l2 (by decide +kernel) ?_
    rw [in_1]
    refine RT_step (pc2 := 134) rfl (fun _ _ => rfl) ?_
    exact ih (i + 1) _ _ (by omega) (by rw [List.length_set]; exact k) (gs_o rfl l0 rfl) (gs_o rfl l1 hz) gs_n h
theorem FR_st2 {k mi : Nat} {As : List Value} {H : List AE} {v : Option Value} {l l2 r : List (Nat × AE)} (hl : (Nat.ble (lg_sl As).length (mL MM mi) && Nat.ble (mL MM mi) 40) = true) (e : oil l r = l2) (e1 : l2 = l2) (h : RT MM k mi 0 (lv_args 0 As) [] (ov H l) (v, ov H l2)) : FR (k + 1) mi As (ov H l) (v, ov (ov H l) r) := by
  rw [ov_ov, e]
  exact FR_of hl h
theorem olk_no {a : Nat} : ∀ {l : List (Nat × AE)}, (l.map Prod.fst).all (fun k => !(Nat.beq k a)) = true → olk l a = none
  | [], _ => rfl
  | q :: l, h => by
    have h : (!(Nat.beq q.1 a) && (l.map Prod.fst).all (fun k => !(Nat.beq k a))) = true := h
    rw [Bool.and_eq_true] at h
    show cond (Nat.beq q.1 a) (some q.2) (olk l a) = none
    cases e : Nat.beq q.1 a with
    | true => rw [e] at h; cases h.1
    | false => exact olk_no h.2
theorem olk_yes {a : Nat} : ∀ {l : List (Nat × AE)}, (l.map Prod.fst).all (fun k => !(Nat.beq k a)) = false → ∃ c, olk l a = some c
  | [], h => by cases h
  | q :: l, h => by
    have h : (!(Nat.beq q.1 a) && (l.map Prod.fst).all (fun k => !(Nat.beq k a))) = false := h
    cases e : Nat.beq q.1 a with
    | true => exact ⟨q.2, by show cond (Nat.beq q.1 a) (some q.2) (olk l a) = _; rw [e]; rfl⟩
    | false =>
      rw [e] at h
      obtain ⟨c, hc⟩ := olk_yes (l := l) h
      exact ⟨c, by show cond (Nat.beq q.1 a) (some q.2) (olk l a) = _; rw [e]; exact hc⟩
/-- cells laid over the same cells -/
theorem ov_same {hp : List AE} {l r : List (Nat × AE)} (hk : r.map Prod.fst = l.map Prod.fst) : ov (ov hp l) r = ov hp r := by
  apply List.ext_getElem?
  intro a
  cases e : (r.map Prod.fst).all (fun k => !(Nat.beq k a)) with
  | true =>
    rw [ov_no (olk_no e), ov_no (olk_no e), ov_no (olk_no (by rw [← hk]; exact e))]
  | false =>
    obtain ⟨c, hc⟩ := olk_yes e
    by_cases ha : a < hp.length
    · rw [ov_at hc (by rw [ov_len]; exact ha), ov_at hc ha]
    · rw [List.getElem?_eq_none (by rw [ov_len, ov_len]; omega), List.getElem?_eq_none (by rw [ov_len]; omega)]
theorem FR_st3 {k mi : Nat} {As : List Value} {H : List AE} {v : Option Value} {l l2 r : List (Nat × AE)} (hl : (Nat.ble (lg_sl As).length (mL MM mi) && Nat.ble (mL MM mi) 40) = true) (hk : r.map Prod.fst = l.map Prod.fst) (e1 : r = l2) (h : RT MM k mi 0 (lv_args 0 As) [] (ov H l) (v, ov H l2)) : FR (k + 1) mi As (ov H l) (v, ov (ov H l) r) := by
  rw [ov_same hk, e1]
  exact FR_of hl h
theorem du_end {H : List AE} (hlen : Nat.ble 204 H.length = true) {p0 p2 nu sg fa pl td : Int32} {sz lim a fr kd : Nat} {wd : Int64} {pr : List Value} {sm : Int32} {ts : List Int32} {rd on nw : List Int32} {rn nz : List Int64} {z v : Int32} (lr : rd.length = 101) (ln : rn.length = 15) (kw : nw.length = 396) (kz : nz.length = 15) (hv : rd[19]? = some v) {L : List (Nat × Value)} (l0 : ev_g L 0 = some (.ref 180)) (l1 : ev_g L 1 = some (.int z)) : RT MM 7 195 106 L [] (ov H [(182, ia nw), (187, lng nz), (191, zb on), (188, lng rn), (183, ia rd), (181, mtl ts), (180, mcl p0 p2 sz lim a fr kd nu sg fa pl wd td (pof (.int sm :: pr)))]) (some (.int z), ov H [(182, ia (fl (-1 : Int32) ((fl (Int32.ofNat 0) (cpl rd nw 101 0) 295 101).set 102 v) 7 (132 + 0))), (187, lng (cpl rn nz 15 0)), (191, zb on), (188, lng rn), (183, ia rd), (181, mtl ts), (180, mcl p0 p2 sz lim a fr kd nu sg fa pl wd td (pof (.int (Int32.ofNat 0) :: pr)))]) := by
  have c1 : (cpl rd nw 101 0).length = 396 := by rw [cpl_len]; exact kw
  have c2 : (cpl rd nw 101 0)[19]? = some v := by rw [cpl_at (by decide) (by decide) (by omega) (by omega)]; exact hv
  · refine rt_ico rfl ki_0 ?_
    refine rt_ist rfl (by decide +kernel) ?_
    refine du_cn hlen (zz := .int z) rfl lr 101 0 nw _ rfl kw (gs_o rfl l0 rfl) (gs_o rfl l1 rfl) gs_n (fun L2 m0 m1 => ?_)
    refine rt_ico rfl ki_0 ?_
    refine rt_ist rfl (by decide +kernel) ?_
    refine du_cz hlen (zz := .int z) rfl ln 15 0 nz _ rfl kz (gs_o rfl m0 rfl) (gs_o rfl m1 rfl) gs_n (fun L3 p0 p1 => ?_)
    refine rt_ald rfl p0 ?_
    refine ow_iv0 rfl rfl rfl rfl hlen rfl rfl rfl ((m_startSo (ov_hl hlen) (ov_at rfl (ov_lt hlen (by decide))) (ov_at rfl (ov_lt hlen (by decide))) c1 c2).up (by decide)) rfl ?_
    refine rt_ald rfl p0 ?_
    refine rt_ico rfl ki_0 ?_
    refine ow_pf rfl rfl rfl rfl rfl hlen rfl rfl ?_
    refine rt_ild rfl p1 ?_
    exact ow_irt rfl rfl rfl
end
