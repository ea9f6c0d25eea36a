theorem k16_900 : (Int16.ofInt 900).toInt32 = Int32.ofNat 900 := by decide +kernel
/-! ===== the reference begins a DUCHY ===== -/
theorem du_r {H : List AE} (hlen : Nat.ble 204 H.length = true) {p0 p2 nu sg fa pl td : Int32} {sz lim a fr kd : Nat} {wd : Int64} {pr : List Value} {ts : List Int32} {rn : List Int64} {on : List Int32} {dd : Nat} {q : ev_R} : ∀ (r i : Nat) (arr : List Int32) (L : List (Nat × Value)), i + r = 101 → arr.length = 101 → ev_g L 0 = some (.ref 180) → ev_g L 1 = some (.int (Int32.ofNat i)) → (∀ L2, ev_g L2 0 = some (.ref 180) → RT MM dd 195 28 L2 [] (ov H ((180, mcl p0 p2 sz lim a fr kd nu sg fa pl wd td (pof pr)) :: (181, mtl ts) :: [(183, ia (zl arr r i)), (188, lng rn), (191, zb on)])) q) → RT MM dd 195 9 L [] (ov H ((180, mcl p0 p2 sz lim a fr kd nu sg fa pl wd td (pof pr)) :: (181, mtl ts) :: [(183, ia arr), (188, lng rn), (191, zb on)])) q := by
  intro r
  induction r with
  | zero =>
    intro i arr L hi hl l0 l1 h
    have hi : i = 101 := by omega
    subst hi
    refine rt_ild rfl l1 ?_
    refine rt_bip rfl k8_101 ?_
    refine biT_ge rfl (n_le (Nat.le_refl _) (by decide)) ?_
    exact h L l0
  | succ r ih =>
    intro i arr L hi hl l0 l1 h
    refine rt_ild rfl l1 ?_
    refine rt_bip rfl k8_101 ?_
    refine biF_ge rfl (n_nle (by omega) (by decide)) ?_
    refine rt_ald rfl l0 ?_
    refine ow_gf rfl rfl rfl hlen rfl ?_
    refine rt_ild rfl l1 ?_
    refine rt_ico rfl ki_0 ?_
    refine ow_iasN (l2 := ((180, mcl p0 p2 sz lim a fr kd nu sg fa pl wd td (pof pr)) :: (181, mtl ts) :: [(183, ia (arr.set i (Int32.ofNat 0))), (188, lng rn), (191, zb on)])) rfl rfl (by omega) (by omega) hlen rfl rfl ?_
    refine rt_inc rfl l1 (by decide +kernel) ?_
    rw [in_1]
    refine RT_step (pc2 := 9) rfl (fun _ _ => rfl) ?_
    exact ih (i + 1) _ _ (by omega) (by rw [List.length_set]; exact hl) (gs_o rfl l0 rfl) gs_n h
theorem du_o {H : List AE} (hlen : Nat.ble 204 H.length = true) {p0 p2 nu sg fa pl td : Int32} {sz lim a fr kd : Nat} {wd : Int64} {pr : List Value} {ts : List Int32} {rd : List Int32} {rn : List Int64} {dd : Nat} {q : ev_R} : ∀ (r i : Nat) (arr : List Int32) (L : List (Nat × Value)), i + r = 3 → arr.length = 3 → ev_g L 0 = some (.ref 180) → ev_g L 1 = some (.int (Int32.ofNat i)) → (∀ L2, ev_g L2 0 = some (.ref 180) → RT MM dd 195 48 L2 [] (ov H ((180, mcl p0 p2 sz lim a fr kd nu sg fa pl wd td (pof pr)) :: (181, mtl ts) :: [(183, ia rd), (188, lng rn), (191, zb (zl arr r i))])) q) → RT MM dd 195 30 L [] (ov H ((180, mcl p0 p2 sz lim a fr kd nu sg fa pl wd td (pof pr)) :: (181, mtl ts) :: [(183, ia rd), (188, lng rn), (191, zb arr)])) q := by
  intro r
  induction r with
  | zero =>
    intro i arr L hi hl l0 l1 h
    have hi : i = 3 := by omega
    subst hi
    refine rt_ild rfl l1 ?_
    refine rt_ico rfl ki_3 ?_
    refine biT_ge rfl (n_le (Nat.le_refl _) (by decide)) ?_
    exact h L l0
  | succ r ih =>
    intro i arr L hi hl l0 l1 h
    refine rt_ild rfl l1 ?_
    refine rt_ico rfl ki_3 ?_
    refine biF_ge rfl (n_nle (by omega) (by decide)) ?_
    refine rt_ald rfl l0 ?_
    refine ow_gf rfl rfl rfl hlen rfl ?_
    refine rt_ild rfl l1 ?_
    refine rt_ico rfl ki_0 ?_
    refine ow_zasN (l2 := ((180, mcl p0 p2 sz lim a fr kd nu sg fa pl wd td (pof pr)) :: (181, mtl ts) :: [(183, ia rd), (188, lng rn), (191, zb (arr.set i (Int32.ofNat 0)))])) rfl rfl (by omega) (by omega) (by decide) hlen rfl rfl ?_
    refine rt_inc rfl l1 (by decide +kernel) ?_
    rw [in_1]
    refine RT_step (pc2 := 30) rfl (fun _ _ => rfl) ?_
    exact ih (i + 1) _ _ (by omega) (by rw [List.length_set]; exact hl) (gs_o rfl l0 rfl) gs_n h
theorem du_s {H : List AE} {B : Nat → Nat} {ts : List Int32} (hM : MY ts B) (hlen : Nat.ble 204 H.length = true) {n sz0 lim0 a0 fr0 kd0 : Nat} {p0 nu0 sg0 fa0 pl0 td0 : Int32} {wd0 : Int64} {pr : List Value} {rd : List Int32} {rn : List Int64} {on : List Int32} (lr : rd.length = 101) (lo : on.length = 3) (hn : n ≤ 940) {q : ev_R} (h : ∀ L2, ev_g L2 0 = some (.ref 180) → ev_g L2 1 = some (.int (Int32.ofNat 0)) → RT MM 7 195 72 L2 [] (ov H ((180, mcl (Int32.ofNat 0) (Int32.ofNat 0) n 900 (goV B n 900 0 nu0 sg0 wd0).1 (goV B n 900 0 nu0 sg0 wd0).2.1 (goV B n 900 0 nu0 sg0 wd0).2.2.1 (goV B n 900 0 nu0 sg0 wd0).2.2.2.1 (goV B n 900 0 nu0 sg0 wd0).2.2.2.2.1 (Int32.ofNat 0) pl0 (goV B n 900 0 nu0 sg0 wd0).2.2.2.2.2 td0 (pof pr)) :: (181, mtl ts) :: [(183, ia ((((zl rd 101 0).set 2 (Int32.ofNat 10)).set 3 (Int32.ofNat 3)).set 4 (Int32.ofNat 5))), (188, lng rn), (191, zb (zl on 3 0))])) q) : RT MM 7 195 0 (lv_args 0 [.ref 180]) [] (ov H ((180, mcl p0 (Int32.ofNat n) sz0 lim0 a0 fr0 kd0 nu0 sg0 fa0 pl0 wd0 td0 (pof pr)) :: (181, mtl ts) :: [(183, ia rd), (188, lng rn), (191, zb on)])) q := by
  refine RT_step (pc2 := 1) rfl (fun _ _ => rfl) ?_
  refine rt_sip rfl k16_900 ?_
  refine ow_iv0 (l2 := ((180, mcl (Int32.ofNat 0) (Int32.ofNat 0) n 900 (goV B n 900 0 nu0 sg0 wd0).1 (goV B n 900 0 nu0 sg0 wd0).2.1 (goV B n 900 0 nu0 sg0 wd0).2.2.1 (goV B n 900 0 nu0 sg0 wd0).2.2.2.1 (goV B n 900 0 nu0 sg0 wd0).2.2.2.2.1 (Int32.ofNat 0) pl0 (goV B n 900 0 nu0 sg0 wd0).2.2.2.2.2 td0 (pof pr)) :: (181, mtl ts) :: [(183, ia rd), (188, lng rn), (191, zb on)])) rfl rfl rfl rfl hlen rfl rfl rfl ((m_begin (n := n) (sz0 := sz0) (lim0 := lim0) (a0 := a0) (fr0 := fr0) (kd0 := kd0) (p0 := p0) (nu0 := nu0) (sg0 := sg0) (fa0 := fa0) (pl0 := pl0) (td0 := td0) (wd0 := wd0) (po := pof pr) (lim := 900) hM (ov_hl hlen) (ov_at rfl (ov_lt hlen (by decide))) (ov_at rfl (ov_lt hlen (by decide))) hn (by decide)).up (by decide)) rfl ?_
  refine rt_ico rfl ki_0 ?_
  refine RT_step (pc2 := 9) rfl (fun _ _ => rfl) ?_
  refine du_r hlen 101 0 rd _ rfl lr rfl rfl (fun L2 l0 => ?_)
  refine rt_ico rfl ki_0 ?_
  refine rt_ist rfl (by decide +kernel) ?_
  refine du_o hlen 3 0 on _ rfl lo (gs_o rfl l0 rfl) gs_n (fun L3 l3 => ?_)
  refine rt_ald rfl l3 ?_
  refine ow_gf rfl rfl rfl hlen rfl ?_
  refine rt_ico rfl ki_2 ?_
  refine rt_bip rfl k8_10 ?_
  refine ow_iasN rfl rfl (by simp only [List.length_set, zl_len]; omega) (by omega) hlen rfl rfl ?_
  refine rt_ald rfl l3 ?_
  refine ow_gf rfl rfl rfl hlen rfl ?_
  refine rt_ico rfl ki_3 ?_
  refine rt_ico rfl ki_3 ?_
  refine ow_iasN rfl rfl (by simp only [List.length_set, zl_len]; omega) (by omega) hlen rfl rfl ?_
  refine rt_ald rfl l3 ?_
  refine ow_gf rfl rfl rfl hlen rfl ?_
  refine rt_ico rfl ki_4 ?_
  refine rt_ico rfl ki_5 ?_
  refine ow_iasN rfl rfl (by simp only [List.length_set, zl_len]; omega) (by omega) hlen rfl rfl ?_
  refine rt_ico rfl ki_0 ?_
  refine rt_ist rfl (by decide +kernel) ?_
  exact h _ (gs_o rfl l3 rfl) gs_n
theorem dr_0 {pn : List Int64} {ri lf wa fo : List Int32} {dn : List Int64} {ha pa bl : List Int32} {rd : List Int32} {rn : List Int64} {on : List Int32} (l : DL pn ri lf wa fo dn ha pa bl) (lr : rd.length = 101) (ln : rn.length = 15) (lo : on.length = 3) : DR 0 0 (Int32.ofNat 0) (Int32.ofNat 0) (Int32.ofNat 0) 0 0 pn ri lf (zl wa 7 0) (zl fo 49 0) dn ha pa bl ((((zl rd 101 0).set 2 (Int32.ofNat 10)).set 3 (Int32.ofNat 3)).set 4 (Int32.ofNat 5)) rn (zl on 3 0) := by
  obtain ⟨l1, l2, l3, l4, l5, l6, l7, l8, l9⟩ := l
  have k : ∀ j, j ≠ 2 → j ≠ 3 → j ≠ 4 → j < 101 → ((((zl rd 101 0).set 2 (Int32.ofNat 10)).set 3 (Int32.ofNat 3)).set 4 (Int32.ofNat 5))[j]? = some (Int32.ofNat 0) := fun j e2 e3 e4 hj => by
    rw [List.getElem?_set_ne (fun e => e4 e.symm), List.getElem?_set_ne (fun e => e3 e.symm), List.getElem?_set_ne (fun e => e2 e.symm)]
    exact zl_at (Nat.zero_le _) (by omega) (by omega)
  refine ⟨by decide, by decide, ⟨l1, l2, l3, by rw [zl_len]; exact l4, by rw [zl_len]; exact l5, l6, l7, l8, l9⟩, by simp only [List.length_set, zl_len]; exact lr, ln, by rw [zl_len]; exact lo, ⟨fun i hi => absurd hi (Nat.not_lt_zero i), fun i hi => absurd hi (Nat.not_lt_zero i)⟩, ⟨k 0 (by decide) (by decide) (by decide) (by decide), k 1 (by decide) (by decide) (by decide) (by decide), k 19 (by decide) (by decide) (by decide) (by decide), by decide, k 44 (by decide) (by decide) (by decide) (by decide), by decide, fun i hi => absurd hi (Nat.not_lt_zero i), fun i hi => absurd hi (Nat.not_lt_zero i), fun i hi => ?_⟩, ⟨fun _ => 0, fun _ => 0, fun q hq => ⟨zl_at (Nat.zero_le _) (by omega) (by omega), (show (0 : Nat) < 128 by decide), k _ (by omega) (by omega) (by omega) (by omega), (show (0 : Nat) < 2 ^ 0 by decide)⟩, fun p q _ _ => (Nat.zero_testBit p).trans (Nat.zero_testBit q).symm⟩, Or.inl ⟨rfl, ?_, zl_at (by decide) (by decide) (by omega)⟩, Or.inl ⟨rfl, ?_, zl_at (by decide) (by decide) (by omega)⟩, Or.inl ⟨rfl, ?_, zl_at (by decide) (by decide) (by omega)⟩⟩
  · rw [k _ (by omega) (by omega) (by omega) (by omega)]
    exact zl_at (Nat.zero_le _) (by omega) (by omega)
  · rw [List.getElem?_set_ne (by decide), List.getElem?_set_ne (by decide), List.getElem?_set_self (by rw [zl_len]; omega)]
  · rw [List.getElem?_set_ne (by decide), List.getElem?_set_self (by rw [List.length_set, zl_len]; omega)]
  · rw [List.getElem?_set_self (by rw [List.length_set, List.length_set, zl_len]; omega)]
