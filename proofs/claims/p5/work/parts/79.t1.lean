/-! ===== the readers of a BOOK: lines, words, names ===== -/
def bkc (o : Nat) (bv : Nat → Int32) : AE := .inr (0, [.ref 106, .ref 107, .ref 108, .ref 109, .int (Int32.ofNat o), .int (bv 5), .int (bv 6), .int (bv 7), .int (bv 8), .int (bv 9), .int (bv 10)])
def posb (vs : Nat → Value) (lm : Nat) : List Value := [.ref 182, .ref 183, .ref 184, .ref 185, .ref 186, .ref 187, .ref 188, .ref 189, .ref 190, .ref 191, vs 24, vs 25, vs 26, vs 27, vs 28, vs 29, vs 30, vs 31, vs 32, vs 33, vs 34, vs 35, vs 36, vs 37, vs 38, vs 39, vs 40, vs 41, vs 42, .ref 200, vs 44, .int (Int32.ofNat lm), vs 46, vs 47, vs 48, vs 49, vs 50, vs 51]
def BX (o : Nat) (u1 u2 u3 u4 : List Int32) : Prop := o ≤ 40 ∧ u1.length = 40 ∧ u2.length = 40 ∧ u3.length = 40 ∧ u4.length = 40
theorem wj_le {k n a kd w : Nat} {le : Int64} {nu nm sg : Int32} {wd : Int64} (t : TF k n a kd w le nu nm sg wd) : ∀ (r i : Nat), i + r ≤ 30 → wjF (km kd) wd r i = wjw w r i
  | 0, _, _ => rfl
  | r + 1, i, h => by
    show (if isW (km kd) wd i = true then i else wjF (km kd) wd r (i + 1)) = (if w = WX.getD i 0 then i else wjw w r (i + 1))
    rw [w_is t (show i < 30 by omega), wj_le t r (i + 1) (by omega)]
    by_cases c : w = WX.getD i 0
    · rw [if_pos c, if_pos (decide_eq_true c)]
    · rw [if_neg c, if_neg (fun e => c (of_decide_eq_true e))]
def LSb (kx x : Nat) (Ax : List Value) (ky m : Nat) (Am : List Value) (X R : List (Nat × AE)) (rx rm : Value) (dX dR : List (Nat × AE)) : Prop := (∀ H : List AE, Nat.ble 204 H.length = true → FR kx x Ax (ov H X) (some rx, ov (ov H X) dX)) ∧ ∀ H : List AE, Nat.ble 204 H.length = true → FR ky m Am (ov H R) (some rm, ov (ov H R) dR)
/-- the verbs -/
theorem vb_cases : ∀ w, w < 32 → (wjw w 5 8 = 13 ∧ ((ev_sw.getD w 0).toInt < 8 ∨ 12 < (ev_sw.getD w 0).toInt)) ∨ (wjw w 5 8 = 8 ∧ w = 11) ∨ (wjw w 5 8 = 9 ∧ w = 12) ∨ (wjw w 5 8 = 10 ∧ w = 13) ∨ (wjw w 5 8 = 11 ∧ w = 14) ∨ (wjw w 5 8 = 12 ∧ w = 15) := by decide +kernel
/-- the hands -/
theorem hd_cases : ∀ w, w < 32 → (wjw w 3 13 = 16 ∧ ((ev_sw.getD w 0).toInt < 13 ∨ 15 < (ev_sw.getD w 0).toInt)) ∨ (wjw w 3 13 = 13 ∧ w = 17) ∨ (wjw w 3 13 = 14 ∧ w = 18) ∨ (wjw w 3 13 = 15 ∧ w = 19) := by decide +kernel
theorem nmul4 (o : Nat) : Int32.ofNat 4 * Int32.ofNat o = Int32.ofNat (4 * o) := nmul 4 o
theorem k16_400 : (Int16.ofInt 400).toInt32 = Int32.ofNat 400 := by decide +kernel
theorem k8_13 : (Int8.ofInt 13).toInt32 = Int32.ofNat 13 := by decide +kernel
theorem k8_16 : (Int8.ofInt 16).toInt32 = Int32.ofNat 16 := by decide +kernel
theorem k8_m2 : (Int8.ofInt (-2)).toInt32 = (-2 : Int32) := by decide +kernel
theorem bx_add {o : Nat} {u1 u2 u3 u4 : List Int32} (h : BX o u1 u2 u3 u4) (ho : o < 40) (z1 z2 z3 z4 : Int32) : ∃ v1 v2 v3 v4 : List Int32, BX (o + 1) v1 v2 v3 v4 ∧ ∀ (bv : Nat → Int32) (H : List AE), Nat.ble 204 H.length = true → H[105]? = some (bkc o bv) → H[106]? = some (ia u1) → H[107]? = some (ia u2) → H[108]? = some (ia u3) → H[109]? = some (ia u4) → FR 1 49 [.ref 105, .int z1, .int z2, .int z3, .int z4] H (none, ov H [(105, bkc (o + 1) bv), (106, ia v1), (107, ia v2), (108, ia v3), (109, ia v4)]) := by
  obtain ⟨s1, g1, g2, g3, g4⟩ := h
  refine ⟨u1.set o z1, u2.set o z2, u3.set o z3, u4.set o z4, ⟨by omega, by rw [List.length_set]; exact g1, by rw [List.length_set]; exact g2, by rw [List.length_set]; exact g3, by rw [List.length_set]; exact g4⟩, fun bv H hlen h0 h1 h2 h3 h4 => ?_⟩
  refine FR_ov (l := [(105, bkc o bv), (106, ia u1), (107, ia u2), (108, ia u3), (109, ia u4)]) (l2 := [(105, bkc (o + 1) bv), (106, ia (u1.set o z1)), (107, ia (u2.set o z2)), (108, ia (u3.set o z3)), (109, ia (u4.set o z4))]) (ov_id h0 (ov_id h1 (ov_id h2 (ov_id h3 (ov_c1 h4))))) rfl rfl ?_
  refine RT_step (pc2 := 1) rfl (fun _ _ => rfl) ?_
  refine ow_gf rfl rfl rfl hlen rfl ?_
  refine rt_bip rfl k8_40 ?_
  refine biF_ge rfl (n_nle (by omega) (by omega)) ?_
  refine RT_step (pc2 := 10) rfl (fun _ _ => rfl) ?_
  refine ow_gf rfl rfl rfl hlen rfl ?_
  refine RT_step (pc2 := 14) rfl (fun _ _ => rfl) ?_
  refine ow_gf rfl rfl rfl hlen rfl ?_
  refine RT_step (pc2 := 18) rfl (fun _ _ => rfl) ?_
  refine ow_iasN (l2 := [(105, bkc o bv), (106, ia (u1.set o z1)), (107, ia u2), (108, ia u3), (109, ia u4)]) rfl rfl (by omega) (by omega) hlen rfl rfl ?_
  refine RT_step (pc2 := 20) rfl (fun _ _ => rfl) ?_
  refine ow_gf rfl rfl rfl hlen rfl ?_
  refine RT_step (pc2 := 24) rfl (fun _ _ => rfl) ?_
  refine ow_gf rfl rfl rfl hlen rfl ?_
  refine RT_step (pc2 := 28) rfl (fun _ _ => rfl) ?_
  refine ow_iasN (l2 := [(105, bkc o bv), (106, ia (u1.set o z1)), (107, ia (u2.set o z2)), (108, ia u3), (109, ia u4)]) rfl rfl (by omega) (by omega) hlen rfl rfl ?_
  refine RT_step (pc2 := 30) rfl (fun _ _ => rfl) ?_
  refine ow_gf rfl rfl rfl hlen rfl ?_
  refine RT_step (pc2 := 34) rfl (fun _ _ => rfl) ?_
  refine ow_gf rfl rfl rfl hlen rfl ?_
  refine RT_step (pc2 := 38) rfl (fun _ _ => rfl) ?_
  refine ow_iasN (l2 := [(105, bkc o bv), (106, ia (u1.set o z1)), (107, ia (u2.set o z2)), (108, ia (u3.set o z3)), (109, ia u4)]) rfl rfl (by omega) (by omega) hlen rfl rfl ?_
  refine RT_step (pc2 := 40) rfl (fun _ _ => rfl) ?_
  refine ow_gf rfl rfl rfl hlen rfl ?_
  refine RT_step (pc2 := 44) rfl (fun _ _ => rfl) ?_
  refine ow_gf rfl rfl rfl hlen rfl ?_
  refine RT_step (pc2 := 49) rfl (fun _ _ => rfl) ?_
  refine ow_iasN (l2 := [(105, bkc o bv), (106, ia (u1.set o z1)), (107, ia (u2.set o z2)), (108, ia (u3.set o z3)), (109, ia (u4.set o z4))]) rfl rfl (by omega) (by omega) hlen rfl rfl ?_
  refine RT_step (pc2 := 51) rfl (fun _ _ => rfl) ?_
  refine RT_step (pc2 := 52) rfl (fun _ _ => rfl) ?_
  refine ow_gf rfl rfl rfl hlen rfl ?_
  refine rt_ico rfl ki_1 ?_
  refine ba_iadd rfl ?_
  rw [n_add]
  refine ow_pf (l2 := [(105, bkc (o + 1) bv), (106, ia (u1.set o z1)), (107, ia (u2.set o z2)), (108, ia (u3.set o z3)), (109, ia (u4.set o z4))]) rfl rfl rfl rfl rfl hlen rfl rfl ?_
  exact ow_ret rfl rfl rfl
theorem m_kp1 {H : List AE} (hlen : Nat.ble 204 H.length = true) {p0 p2 nu sg fa pl td : Int32} {sz lim a fr kd lm : Nat} {wd : Int64} {vs : Nat → Value} {li : List Int32} {i : Nat} (h0 : H[180]? = some (mcl p0 p2 sz lim a fr kd nu sg fa pl wd td (posb vs lm))) (h1 : H[200]? = some (ia li)) (hi : i < li.length) (hi2 : i < 1000) : FR 1 229 [.ref 180, .int (Int32.ofNat i), .int (Int32.ofNat 1)] H (some (.int (Int32.ofNat 1)), ov H [(180, mcl p0 p2 sz lim a fr kd nu sg fa pl wd td (posb vs lm)), (200, ia (li.set i td))]) := by
  refine FR_ov (l := [(180, mcl p0 p2 sz lim a fr kd nu sg fa pl wd td (posb vs lm)), (200, ia li)]) (l2 := [(180, mcl p0 p2 sz lim a fr kd nu sg fa pl wd td (posb vs lm)), (200, ia (li.set i td))]) (ov_id h0 (ov_c1 h1)) rfl rfl ?_
  refine RT_step (pc2 := 1) rfl (fun _ _ => rfl) ?_
  refine bcF_eq rfl (by decide) ?_
  refine RT_step (pc2 := 5) rfl (fun _ _ => rfl) ?_
  refine ow_gf rfl rfl rfl hlen rfl ?_
  refine RT_step (pc2 := 9) rfl (fun _ _ => rfl) ?_
  refine RT_step (pc2 := 10) rfl (fun _ _ => rfl) ?_
  refine ow_gf rfl rfl rfl hlen rfl ?_
  refine ow_iasN (l2 := [(180, mcl p0 p2 sz lim a fr kd nu sg fa pl wd td (posb vs lm)), (200, ia (li.set i td))]) rfl rfl hi (by omega) hlen rfl rfl ?_
  refine RT_step (pc2 := 15) rfl (fun _ _ => rfl) ?_
  exact ow_irt rfl rfl rfl
theorem m_kp0 {H : List AE} {i : Int32} : FR 1 229 [.ref 180, .int i, .int (Int32.ofNat 0)] H (some (.int (Int32.ofNat 0)), ov H []) := by
  refine FR_of rfl ?_
  refine RT_step (pc2 := 1) rfl (fun _ _ => rfl) ?_
  refine bcT_eq rfl rfl ?_
  refine RT_step (pc2 := 15) rfl (fun _ _ => rfl) ?_
  exact ow_irt rfl rfl rfl
theorem m_vl {H : List AE} (hlen : Nat.ble 204 H.length = true) {p0 p2 nu sg fa pl td : Int32} {sz lim a fr kd lm : Nat} {wd : Int64} {vs : Nat → Value} {z : Int32} {R : List (Nat × AE)} (hk : kd < 10) {dd : Nat} {q : ev_R} : ∀ (r i : Nat) (L : List (Nat × Value)), i + r = 13 → ev_g L 0 = some (.ref 180) → ev_g L 1 = some (.int z) → ev_g L 2 = some (.int (Int32.ofNat i)) → (∀ L2, ev_g L2 0 = some (.ref 180) → ev_g L2 1 = some (.int z) → ev_g L2 2 = some (.int (Int32.ofNat (wjF kd wd r i))) → RT MM (dd + 3) 250 23 L2 [] (ov H ((180, mcl p0 p2 sz lim a fr kd nu sg fa pl wd td (posb vs lm)) :: R)) q) → RT MM (dd + 3) 250 3 L [] (ov H ((180, mcl p0 p2 sz lim a fr kd nu sg fa pl wd td (posb vs lm)) :: R)) q := by
  intro r
  induction r with
  | zero =>
    intro i L hi l0 l1 lw hq
    have hi : i = 13 := by omega
    subst hi
    refine rt_ild rfl lw ?_
    refine rt_bip rfl k8_12 ?_
    refine biT_gt rfl (n_lt (by decide) (by decide)) ?_
    exact hq _ l0 l1 lw
  | succ r ih =>
    intro i L hi l0 l1 lw hq
    cases c : isW kd wd i with
    | true =>
      rw [show wjF kd wd (r + 1) i = i from if_pos c] at hq
      refine rt_ild rfl lw ?_
      refine rt_bip rfl k8_12 ?_
      refine biF_gt rfl (n_nlt (by omega) (by omega)) ?_
      refine rt_ald rfl l0 ?_
      refine rt_ild rfl lw ?_
      refine ow_iv1 (l2 := ((180, mcl p0 p2 sz lim a fr kd nu sg fa pl wd td (posb vs lm)) :: R)) rfl rfl rfl rfl hlen rfl rfl rfl ((m_isWord (k := i) (ov_hl hlen) (ov_at rfl (ov_lt hlen (by decide))) hk (by omega)).up (by omega)) rfl ?_
      refine bcF_ne rfl (b01_t c) ?_
      exact hq _ l0 l1 lw
    | false =>
      rw [show wjF kd wd (r + 1) i = wjF kd wd r (i + 1) from if_neg (by rw [c]; decide)] at hq
      refine rt_ild rfl lw ?_
      refine rt_bip rfl k8_12 ?_
      refine biF_gt rfl (n_nlt (by omega) (by omega)) ?_
      refine rt_ald rfl l0 ?_
      refine rt_ild rfl lw ?_
      refine ow_iv1 (l2 := ((180, mcl p0 p2 sz lim a fr kd nu sg fa pl wd td (posb vs lm)) :: R)) rfl rfl rfl rfl hlen rfl rfl rfl ((m_isWord (k := i) (ov_hl hlen) (ov_at rfl (ov_lt hlen (by decide))) hk (by omega)).up (by omega)) rfl ?_
      refine bcT_ne rfl (b01_f c) ?_
      refine rt_inc rfl lw (by decide +kernel) ?_
      rw [in_1]
      refine RT_step (pc2 := 3) rfl (fun _ _ => rfl) ?_
      exact ih (i + 1) _ (by omega) (gs_o rfl l0 rfl) (gs_o rfl l1 rfl) gs_n hq
theorem m_hl {H : List AE} (hlen : Nat.ble 204 H.length = true) {p0 p2 nu sg fa pl td : Int32} {sz lim a fr kd lm : Nat} {wd : Int64} {vs : Nat → Value}  {R : List (Nat × AE)} (hk : kd < 10) {dd : Nat} {q : ev_R} : ∀ (r i : Nat) (L : List (Nat × Value)), i + r = 16 → ev_g L 0 = some (.ref 180) → ev_g L 1 = some (.int (Int32.ofNat i)) → (∀ L2, ev_g L2 0 = some (.ref 180) → ev_g L2 1 = some (.int (Int32.ofNat (wjF kd wd r i))) → RT MM (dd + 3) 255 23 L2 [] (ov H ((180, mcl p0 p2 sz lim a fr kd nu sg fa pl wd td (posb vs lm)) :: R)) q) → RT MM (dd + 3) 255 3 L [] (ov H ((180, mcl p0 p2 sz lim a fr kd nu sg fa pl wd td (posb vs lm)) :: R)) q := by
  intro r
  induction r with
  | zero =>
    intro i L hi l0 lw hq
    have hi : i = 16 := by omega
    subst hi
    refine rt_ild rfl lw ?_
    refine rt_bip rfl k8_15 ?_
    refine biT_gt rfl (n_lt (by decide) (by decide)) ?_
    exact hq _ l0 lw
  | succ r ih =>
    intro i L hi l0 lw hq
    cases c : isW kd wd i with
    | true =>
      rw [show wjF kd wd (r + 1) i = i from if_pos c] at hq
      refine rt_ild rfl lw ?_
      refine rt_bip rfl k8_15 ?_
      refine biF_gt rfl (n_nlt (by omega) (by omega)) ?_
      refine rt_ald rfl l0 ?_
      refine rt_ild rfl lw ?_
      refine ow_iv1 (l2 := ((180, mcl p0 p2 sz lim a fr kd nu sg fa pl wd td (posb vs lm)) :: R)) rfl rfl rfl rfl hlen rfl rfl rfl ((m_isWord (k := i) (ov_hl hlen) (ov_at rfl (ov_lt hlen (by decide))) hk (by omega)).up (by omega)) rfl ?_
      refine bcF_ne rfl (b01_t c) ?_
      exact hq _ l0 lw
    | false =>
      rw [show wjF kd wd (r + 1) i = wjF kd wd r (i + 1) from if_neg (by rw [c]; decide)] at hq
      refine rt_ild rfl lw ?_
      refine rt_bip rfl k8_15 ?_
      refine biF_gt rfl (n_nlt (by omega) (by omega)) ?_
      refine rt_ald rfl l0 ?_
      refine rt_ild rfl lw ?_
      refine ow_iv1 (l2 := ((180, mcl p0 p2 sz lim a fr kd nu sg fa pl wd td (posb vs lm)) :: R)) rfl rfl rfl rfl hlen rfl rfl rfl ((m_isWord (k := i) (ov_hl hlen) (ov_at rfl (ov_lt hlen (by decide))) hk (by omega)).up (by omega)) rfl ?_
      refine bcT_ne rfl (b01_f c) ?_
      refine rt_inc rfl lw (by decide +kernel) ?_
      rw [in_1]
      refine RT_step (pc2 := 3) rfl (fun _ _ => rfl) ?_
      exact ih (i + 1) _ (by omega) (gs_o rfl l0 rfl) gs_n hq
