theorem k8_15 : (Int8.ofInt 15).toInt32 = Int32.ofNat 15 := by decide +kernel
/-! ===== duchy(), in full ===== -/
theorem x_takeFault {H : List AE} (hlen : Nat.ble 204 H.length = true) {d s se ss n lim a kd pl w : Nat} {lt fb tq gb nu tk fa fp : Int32} {le : Int64} (h0 : H[0]? = some (.inr (10, [.ref 1, .ref d, .ref s, .ref 23, .ref 31, .ref 39, .ref 105, .ref se, .ref ss, .ref 120, .ref 125, .ref 129, .ref 131, .int lt, .int fb, .int tq, .int gb]))) (h1 : H[1]? = some (tcl n lim a kd pl w le nu tk fa fp)) : FR 1 41 [.ref 0] H (none, ov H [(0, .inr (10, [.ref 1, .ref d, .ref s, .ref 23, .ref 31, .ref 39, .ref 105, .ref se, .ref ss, .ref 120, .ref 125, .ref 129, .ref 131, .int fa, .int fb, .int tq, .int gb])), (1, tcl 0 lim a kd pl w le nu tk fa fp)]) := by
  refine FR_ov (l := [(0, .inr (10, [.ref 1, .ref d, .ref s, .ref 23, .ref 31, .ref 39, .ref 105, .ref se, .ref ss, .ref 120, .ref 125, .ref 129, .ref 131, .int lt, .int fb, .int tq, .int gb])), (1, tcl n lim a kd pl w le nu tk fa fp)]) (l2 := [(0, .inr (10, [.ref 1, .ref d, .ref s, .ref 23, .ref 31, .ref 39, .ref 105, .ref se, .ref ss, .ref 120, .ref 125, .ref 129, .ref 131, .int fa, .int fb, .int tq, .int gb])), (1, tcl 0 lim a kd pl w le nu tk fa fp)]) (ov_id h0 (ov_c1 h1)) rfl rfl ?_
  refine RT_step (pc2 := 1) rfl (fun _ _ => rfl) ?_
  refine RT_step (pc2 := 2) rfl (fun _ _ => rfl) ?_
  refine ow_gf rfl rfl rfl hlen rfl ?_
  refine ow_gf rfl rfl rfl hlen rfl ?_
  refine ow_pf rfl rfl rfl rfl rfl hlen rfl rfl ?_
  refine RT_step (pc2 := 12) rfl (fun _ _ => rfl) ?_
  refine ow_gf rfl rfl rfl hlen rfl ?_
  refine rt_ico rfl ki_0 ?_
  refine ow_pf rfl rfl rfl rfl rfl hlen rfl rfl ?_
  exact ow_ret rfl rfl rfl
theorem x_forget {H : List AE} (hlen : Nat.ble 204 H.length = true) {c1 c2 : Int32} (h0 : H[39]? = some (.inr (6, [.ref 40, .int c1, .int c2]))) : FR 1 129 [.ref 39] H (none, ov H [(39, .inr (6, [.ref 40, .int c1, .int (Int32.ofNat 0)]))]) := by
  refine FR_ov (l := [(39, .inr (6, [.ref 40, .int c1, .int c2]))]) (l2 := [(39, .inr (6, [.ref 40, .int c1, .int (Int32.ofNat 0)]))]) (ov_c1 h0) rfl rfl ?_
  refine RT_step (pc2 := 1) rfl (fun _ _ => rfl) ?_
  refine rt_ico rfl ki_0 ?_
  refine ow_pf rfl rfl rfl rfl rfl hlen rfl rfl ?_
  exact ow_ret rfl rfl rfl
theorem x_sclear110 {H : List AE} (hlen : Nat.ble 204 H.length = true) {e0 e1 : Int32} (h0 : H[110]? = some (.inr (7, [.int e0, .int e1, .ref 111, .ref 112, .ref 113, .ref 114]))) : FR 1 136 [.ref 110] H (none, ov H [(110, .inr (7, [.int (Int32.ofNat 0), .int (Int32.ofNat 0), .ref 111, .ref 112, .ref 113, .ref 114]))]) := by
  refine FR_ov (l := [(110, .inr (7, [.int e0, .int e1, .ref 111, .ref 112, .ref 113, .ref 114]))]) (l2 := [(110, .inr (7, [.int (Int32.ofNat 0), .int (Int32.ofNat 0), .ref 111, .ref 112, .ref 113, .ref 114]))]) (ov_c1 h0) rfl rfl ?_
  refine RT_step (pc2 := 1) rfl (fun _ _ => rfl) ?_
  refine rt_ico rfl ki_0 ?_
  refine ow_pf rfl rfl rfl rfl rfl hlen rfl rfl ?_
  refine RT_step (pc2 := 6) rfl (fun _ _ => rfl) ?_
  refine rt_ico rfl ki_0 ?_
  refine ow_pf rfl rfl rfl rfl rfl hlen rfl rfl ?_
  exact ow_ret rfl rfl rfl
theorem x_sclear115 {H : List AE} (hlen : Nat.ble 204 H.length = true) {e0 e1 : Int32} (h0 : H[115]? = some (.inr (7, [.int e0, .int e1, .ref 116, .ref 117, .ref 118, .ref 119]))) : FR 1 136 [.ref 115] H (none, ov H [(115, .inr (7, [.int (Int32.ofNat 0), .int (Int32.ofNat 0), .ref 116, .ref 117, .ref 118, .ref 119]))]) := by
  refine FR_ov (l := [(115, .inr (7, [.int e0, .int e1, .ref 116, .ref 117, .ref 118, .ref 119]))]) (l2 := [(115, .inr (7, [.int (Int32.ofNat 0), .int (Int32.ofNat 0), .ref 116, .ref 117, .ref 118, .ref 119]))]) (ov_c1 h0) rfl rfl ?_
  refine RT_step (pc2 := 1) rfl (fun _ _ => rfl) ?_
  refine rt_ico rfl ki_0 ?_
  refine ow_pf rfl rfl rfl rfl rfl hlen rfl rfl ?_
  refine RT_step (pc2 := 6) rfl (fun _ _ => rfl) ?_
  refine rt_ico rfl ki_0 ?_
  refine ow_pf rfl rfl rfl rfl rfl hlen rfl rfl ?_
  exact ow_ret rfl rfl rfl
theorem du_cn {H : List AE} (hlen : Nat.ble 204 H.length = true) {p0 p2 nu sg fa pl td : Int32} {sz lim a fr kd : Nat} {wd : Int64} {pr : List Value} {ts : List Int32} {rd on : List Int32} {rn : List Int64} {nz : List Int64} {dd : Nat} {zz : Value} (hz : zz.category = 1) (hs : rd.length = 101) {q : ev_R} : ∀ (r i : Nat) (arr : List Int32) (L : List (Nat × Value)), i + r = 101 → arr.length = 396 → ev_g L 0 = some (.ref 180) → ev_g L 1 = some zz → ev_g L 2 = some (.int (Int32.ofNat i)) → (∀ L2, ev_g L2 0 = some (.ref 180) → ev_g L2 1 = some zz → RT MM dd 195 132 L2 [] (ov H [(182, ia (cpl rd arr r i)), (187, lng nz), (191, zb on), (188, lng rn), (183, ia rd), (181, mtl ts), (180, mcl p0 p2 sz lim a fr kd nu sg fa pl wd td (pof pr))]) q) → RT MM dd 195 108 L [] (ov H [(182, ia arr), (187, lng nz), (191, zb on), (188, lng rn), (183, ia rd), (181, mtl ts), (180, mcl p0 p2 sz lim a fr kd nu sg fa pl wd td (pof pr))]) q := by
  intro r
  induction r with
  | zero =>
    intro i arr L hi k l0 l1 l2 h
    have hi : i = 101 := by omega
    subst hi
    refine rt_ild rfl l2 ?_
    refine rt_bip rfl k8_101 ?_
    refine biT_ge rfl (n_le (Nat.le_refl _) (by decide)) ?_
    exact h L l0 l1
  | succ r ih =>
    intro i arr L hi k l0 l1 l2 h
    have e := gd_i (arr := rd) (i := i) (by omega)
    rw [cpl_s e] at h
    refine rt_ild rfl l2 ?_
    refine rt_bip rfl k8_101 ?_
    refine biF_ge rfl (n_nle (by omega) (by decide)) ?_
    refine rt_ald rfl l0 ?_
    refine ow_gf rfl rfl rfl hlen rfl ?_
    refine rt_ild rfl l2 ?_
    refine rt_ald rfl l0 ?_
    refine ow_gf rfl rfl rfl hlen rfl ?_
    refine rt_ild rfl l2 ?_
    refine ow_ialN rfl rfl e (by omega) hlen rfl ?_
    refine ow_iasN rfl rfl (by omega) (by omega) hlen rfl rfl ?_
    refine rt_inc rfl l2 (by decide +kernel) ?_
    rw [in_1]
    refine RT_step (pc2 := 108) rfl (fun _ _ => rfl) ?_
    exact ih (i + 1) _ _ (by omega) (by rw [List.length_set]; exact k) (gs_o rfl l0 rfl) (gs_o rfl l1 hz) gs_n h
theorem du_cz {H : List AE} (hlen : Nat.ble 204 H.length = true) {p0 p2 nu sg fa pl td : Int32} {sz lim a fr kd : Nat} {wd : Int64} {pr : List Value} {ts : List Int32} {rd on : List Int32} {rn : List Int64} {nw : List Int32} {dd : Nat} {zz : Value} (hz : zz.category = 1) (hs : rn.length = 15) {q : ev_R} : ∀ (r i : Nat) (arr : List Int64) (L : List (Nat × Value)), i + r = 15 → arr.length = 15 → ev_g L 0 = some (.ref 180) → ev_g L 1 = some zz → ev_g L 2 = some (.int (Int32.ofNat i)) → (∀ L2, ev_g L2 0 = some (.ref 180) → ev_g L2 1 = some zz → RT MM dd 195 158 L2 [] (ov H [(182, ia nw), (187, lng (cpl rn arr r i)), (191, zb on), (188, lng rn), (183, ia rd), (181, mtl ts), (180, mcl p0 p2 sz lim a fr kd nu sg fa pl wd td (pof pr))]) q) → RT MM dd 195 134 L [] (ov H [(182, ia nw), (187, lng arr), (191, zb on), (188, lng rn), (183, ia rd), (181, mtl ts), (180, mcl p0 p2 sz lim a fr kd nu sg fa pl wd td (pof pr))]) q := by
  intro r
  induction r with
  | zero =>
    intro i arr L hi k l0 l1 l2 h
    have hi : i = 15 := by omega
    subst hi
    refine rt_ild rfl l2 ?_
    refine rt_bip rfl k8_15 ?_
    refine biT_ge rfl (n_le (Nat.le_refl _) (by decide)) ?_
    exact h L l0 l1
  | succ r ih =>
    intro i arr L hi k l0 l1 l2 h
    have e := gd_i (arr := rn) (i := i) (by omega)
    rw [cpl_s e] at h
    refine rt_ild rfl l2 ?_
    refine rt_bip rfl k8_15 ?_
    refine biF_ge rfl (n_nle (by omega) (by decide)) ?_
    refine rt_ald rfl l0 ?_
    refine ow_gf rfl rfl rfl hlen rfl ?_
    refine rt_ild rfl l2 ?_
    refine rt_ald rfl l0 ?_
    refine ow_gf rfl rfl rfl hlen rfl ?_
    refine rt_ild rfl l2 ?_
    refine ow_lalN rfl rfl e (by omega) hlen rfl ?_
    refine ow_lasN rfl rfl (by omega) (by omega) hlen rfl rfl ?_
    refine rt_inc rfl l2 (by decide +kernel) ?_
    rw [in_1]
    refine RT_step (pc2 := 134) rfl (fun _ _ => rfl) ?_
    exact ih (i + 1) _ _ (by omega) (by rw [List.length_set]; exact k) (gs_o rfl l0 rfl) (gs_o rfl l1 hz) gs_n h
theorem FR_st2 {k mi : Nat} {As : List Value} {H : List AE} {v : Option Value} {l l2 r : List (Nat × AE)} (hl : (Nat.ble (lg_sl As).length (mL MM mi) && Nat.ble (mL MM mi) 40) = true) (e : oil l r = l2) (e1 : l2 = l2) (h : RT MM k mi 0 (lv_args 0 As) [] (ov H l) (v, ov H l2)) : FR (k + 1) mi As (ov H l) (v, ov (ov H l) r) := by
  rw [ov_ov, e]
  exact FR_of hl h
theorem olk_no {a : Nat} : ∀ {l : List (Nat × AE)}, (l.map Prod.fst).all (fun k => !(Nat.beq k a)) = true → olk l a = none
  | [], _ => rfl
  | q :: l, h => by
    have h : (!(Nat.beq q.1 a) && (l.map Prod.fst).all (fun k => !(Nat.beq k a))) = true := h
    rw [Bool.and_eq_true] at h
    show cond (Nat.beq q.1 a) (some q.2) (olk l a) = none
    cases e : Nat.beq q.1 a with
    | true => rw [e] at h; cases h.1
    | false => exact olk_no h.2
theorem olk_yes {a : Nat} : ∀ {l : List (Nat × AE)}, (l.map Prod.fst).all (fun k => !(Nat.beq k a)) = false → ∃ c, olk l a = some c
  | [], h => by cases h
  | q :: l, h => by
    have h : (!(Nat.beq q.1 a) && (l.map Prod.fst).all (fun k => !(Nat.beq k a))) = false := h
    cases e : Nat.beq q.1 a with
    | true => exact ⟨q.2, by show cond (Nat.beq q.1 a) (some q.2) (olk l a) = _; rw [e]; rfl⟩
    | false =>
      rw [e] at h
      obtain ⟨c, hc⟩ := olk_yes (l := l) h
      exact ⟨c, by show cond (Nat.beq q.1 a) (some q.2) (olk l a) = _; rw [e]; exact hc⟩
/-- cells laid over the same cells -/
theorem ov_same {hp : List AE} {l r : List (Nat × AE)} (hk : r.map Prod.fst = l.map Prod.fst) : ov (ov hp l) r = ov hp r := by
  apply List.ext_getElem?
  intro a
  cases e : (r.map Prod.fst).all (fun k => !(Nat.beq k a)) with
  | true =>
    rw [ov_no (olk_no e), ov_no (olk_no e), ov_no (olk_no (by rw [← hk]; exact e))]
  | false =>
    obtain ⟨c, hc⟩ := olk_yes e
    by_cases ha : a < hp.length
    · rw [ov_at hc (by rw [ov_len]; exact ha), ov_at hc ha]
    · rw [List.getElem?_eq_none (by rw [ov_len, ov_len]; omega), List.getElem?_eq_none (by rw [ov_len]; omega)]
theorem FR_st3 {k mi : Nat} {As : List Value} {H : List AE} {v : Option Value} {l l2 r : List (Nat × AE)} (hl : (Nat.ble (lg_sl As).length (mL MM mi) && Nat.ble (mL MM mi) 40) = true) (hk : r.map Prod.fst = l.map Prod.fst) (e1 : r = l2) (h : RT MM k mi 0 (lv_args 0 As) [] (ov H l) (v, ov H l2)) : FR (k + 1) mi As (ov H l) (v, ov (ov H l) r) := by
  rw [ov_same hk, e1]
  exact FR_of hl h
theorem du_end {H : List AE} (hlen : Nat.ble 204 H.length = true) {p0 p2 nu sg fa pl td : Int32} {sz lim a fr kd : Nat} {wd : Int64} {pr : List Value} {sm : Int32} {ts : List Int32} {rd on nw : List Int32} {rn nz : List Int64} {z v : Int32} (lr : rd.length = 101) (ln : rn.length = 15) (kw : nw.length = 396) (kz : nz.length = 15) (hv : rd[19]? = some v) {L : List (Nat × Value)} (l0 : ev_g L 0 = some (.ref 180)) (l1 : ev_g L 1 = some (.int z)) : RT MM 7 195 106 L [] (ov H [(182, ia nw), (187, lng nz), (191, zb on), (188, lng rn), (183, ia rd), (181, mtl ts), (180, mcl p0 p2 sz lim a fr kd nu sg fa pl wd td (pof (.int sm :: pr)))]) (some (.int z), ov H [(182, ia (fl (-1 : Int32) ((fl (Int32.ofNat 0) (cpl rd nw 101 0) 295 101).set 102 v) 7 (132 + 0))), (187, lng (cpl rn nz 15 0)), (191, zb on), (188, lng rn), (183, ia rd), (181, mtl ts), (180, mcl p0 p2 sz lim a fr kd nu sg fa pl wd td (pof (.int (Int32.ofNat 0) :: pr)))]) := by
  have c1 : (cpl rd nw 101 0).length = 396 := by rw [cpl_len]; exact kw
  have c2 : (cpl rd nw 101 0)[19]? = some v := by rw [cpl_at (by decide) (by decide) (by omega) (by omega)]; exact hv
  · refine rt_ico rfl ki_0 ?_
    refine rt_ist rfl (by decide +kernel) ?_
    refine du_cn hlen (zz := .int z) rfl lr 101 0 nw _ rfl kw (gs_o rfl l0 rfl) (gs_o rfl l1 rfl) gs_n (fun L2 m0 m1 => ?_)
    refine rt_ico rfl ki_0 ?_
    refine rt_ist rfl (by decide +kernel) ?_
    refine du_cz hlen (zz := .int z) rfl ln 15 0 nz _ rfl kz (gs_o rfl m0 rfl) (gs_o rfl m1 rfl) gs_n (fun L3 p0 p1 => ?_)
    refine rt_ald rfl p0 ?_
    refine ow_iv0 rfl rfl rfl rfl hlen rfl rfl rfl ((m_startSo (ov_hl hlen) (ov_at rfl (ov_lt hlen (by decide))) (ov_at rfl (ov_lt hlen (by decide))) c1 c2).up (by decide)) rfl ?_
    refine rt_ald rfl p0 ?_
    refine rt_ico rfl ki_0 ?_
    refine ow_pf rfl rfl rfl rfl rfl hlen rfl rfl ?_
    refine rt_ild rfl p1 ?_
    exact ow_irt rfl rfl rfl
