/-! ===== fits of the reference ===== -/
theorem m_isD {H : List AE} (hlen : Nat.ble 204 H.length = true) {p0 p2 nu sg fa pl td : Int32} {sz lim a fr kd : Nat} {wd : Int64} {pr : List Value} {nw : List Int32} {Dn v : Nat} (h0 : H[180]? = some (mcl p0 p2 sz lim a fr kd nu sg fa pl wd td (pof pr))) (h1 : H[182]? = some (ia nw)) (v1 : nw[1]? = some (Int32.ofNat Dn)) (hD : Dn ≤ 8) (hv : v < 256) : FR 2 214 [.ref 180, .int (Int32.ofNat v)] H (some (.int (b01 (decide (v < Dn)))), ov H []) := by
  refine FR_ov (l := [(180, mcl p0 p2 sz lim a fr kd nu sg fa pl wd td (pof pr)), (182, ia nw)]) (l2 := [(180, mcl p0 p2 sz lim a fr kd nu sg fa pl wd td (pof pr)), (182, ia nw)]) (ov_id h0 (ov_c1 h1)) rfl (ov_id h0 (ov_c1 h1)) ?_
  by_cases c : v < Dn
  · rw [decide_eq_true c]
    refine RT_step (pc2 := 1) rfl (fun _ _ => rfl) ?_
    refine rt_ico rfl ki_0 ?_
    refine RT_step (pc2 := 3) rfl (fun _ _ => rfl) ?_
    refine ow_gf rfl rfl rfl hlen rfl ?_
    refine rt_ico rfl ki_1 ?_
    refine ow_ialN rfl rfl v1 (by omega) hlen rfl ?_
    refine rt_ico rfl ki_1 ?_
    refine ba_isub rfl ?_
    refine ow_is1 (l2 := [(180, mcl p0 p2 sz lim a fr kd nu sg fa pl wd td (pof pr)), (182, ia nw)]) rfl rfl rfl rfl rfl ((m_isIn1 (n_le (Nat.zero_le v) (by omega)) (Int32.le_iff_toInt_le.mpr (by rw [n_sub1 hD, n_int (by omega)]; omega))).up (by decide)) rfl ?_
    exact ow_irt rfl rfl rfl
  · rw [decide_eq_false c]
    refine RT_step (pc2 := 1) rfl (fun _ _ => rfl) ?_
    refine rt_ico rfl ki_0 ?_
    refine RT_step (pc2 := 3) rfl (fun _ _ => rfl) ?_
    refine ow_gf rfl rfl rfl hlen rfl ?_
    refine rt_ico rfl ki_1 ?_
    refine ow_ialN rfl rfl v1 (by omega) hlen rfl ?_
    refine rt_ico rfl ki_1 ?_
    refine ba_isub rfl ?_
    refine ow_is1 (l2 := [(180, mcl p0 p2 sz lim a fr kd nu sg fa pl wd td (pof pr)), (182, ia nw)]) rfl rfl rfl rfl rfl ((m_isIn0 (Or.inr (Int32.lt_iff_toInt_lt.mpr (by rw [n_sub1 hD, n_int (by omega)]; omega)))).up (by decide)) rfl ?_
    exact ow_irt rfl rfl rfl
theorem m_ck1 {H : List AE} (hlen : Nat.ble 204 H.length = true) {sm pm pn fm te gu p0 nu sg fa pl td : Int32} {n sz lim a fr kd : Nat} {wd : Int64} {pr : List Value} {nw ri lf ha : List Int32} {P Dn bo : Nat} {ts : List Int32} {B : Nat → Nat} {fi ty : List Int32} (hM : MY ts B) (hb : ∀ i, B i < 256) (hP : P ≤ 7) (hD : Dn ≤ 8) (v0 : nw[0]? = some (Int32.ofNat P)) (v1 : nw[1]? = some (Int32.ofNat Dn)) (h44 : nw[44]? = some (Int32.ofNat bo)) (hbo : bo < 256) (lr : ri.length = 7) (ll : lf.length = 7) (lh : ha.length = 8) (vp : ∀ i, i < P → ri[i]? = nw[5 + i]? ∧ lf[i]? = nw[12 + i]?) (vd : ∀ d, d < Dn → ha[d]? = nw[20 + d]?) {m : Nat} (hm : m ≤ 6) (hg : ∀ i, i < m → B (2 * i) < Dn ∧ B (2 * i + 1) ≤ 1) {dd : Nat} {q : ev_R} : ∀ (r j : Nat) (L : List (Nat × Value)), j + r = m → ev_g L 0 = some (.ref 180) → ev_g L 1 = some (.int (Int32.ofNat (2 * m))) → ev_g L 2 = some (.int (Int32.ofNat (2 * j))) → (∀ L2, ev_g L2 0 = some (.ref 180) → ev_g L2 1 = some (.int (Int32.ofNat (2 * m))) → RT MM (dd + 4) 202 70 L2 [] (ov H [(180, mcl (Int32.ofNat 0) (Int32.ofNat 0) sz lim a fr kd nu sg fa pl wd td (pof (.int sm :: .ref 192 :: .ref 193 :: .ref 194 :: .int pm :: .int pn :: .ref 195 :: .ref 196 :: .int fm :: .int te :: .int gu :: pr))), (181, mtl ts), (182, ia nw), (195, ia fi), (196, ia ty)]) q) → RT MM (dd + 4) 202 32 L [] (ov H [(180, mcl (Int32.ofNat 0) (Int32.ofNat 0) sz lim a fr kd nu sg fa pl wd td (pof (.int sm :: .ref 192 :: .ref 193 :: .ref 194 :: .int pm :: .int pn :: .ref 195 :: .ref 196 :: .int fm :: .int te :: .int gu :: pr))), (181, mtl ts), (182, ia nw), (195, ia fi), (196, ia ty)]) q := by
  intro r
  induction r with
  | zero =>
    intro j L hj l0 l1 l2 hq
    refine rt_ild rfl l2 ?_
    refine rt_ild rfl l1 ?_
    refine biT_ge rfl (n_le (by omega) (by omega)) ?_
    exact hq _ l0 l1
  | succ r ih =>
    intro j L hj l0 l1 l2 hq
    obtain ⟨k1, k2⟩ := hg j (by omega)
    have ck := m_isD (H := ov H [(180, mcl (Int32.ofNat 0) (Int32.ofNat 0) sz lim a fr kd nu sg fa pl wd td (pof (.int sm :: .ref 192 :: .ref 193 :: .ref 194 :: .int pm :: .int pn :: .ref 195 :: .ref 196 :: .int fm :: .int te :: .int gu :: pr))), (181, mtl ts), (182, ia nw), (195, ia fi), (196, ia ty)]) (v := B (2 * j)) (ov_hl hlen) (ov_at rfl (ov_lt hlen (by decide))) (ov_at rfl (ov_lt hlen (by decide))) v1 hD (hb _)
    rw [decide_eq_true k1] at ck
    refine rt_ild rfl l2 ?_
    refine rt_ild rfl l1 ?_
    refine biF_ge rfl (n_nle (by omega) (by omega)) ?_
    refine rt_ald rfl l0 ?_
    refine rt_ald rfl l0 ?_
    refine ow_gf rfl rfl rfl hlen rfl ?_
    refine rt_ild rfl l2 ?_
    refine ow_ialN rfl rfl (hM (2 * j) (by omega)).1 (by omega) hlen rfl ?_
    refine ow_iv1 (l2 := [(180, mcl (Int32.ofNat 0) (Int32.ofNat 0) sz lim a fr kd nu sg fa pl wd td (pof (.int sm :: .ref 192 :: .ref 193 :: .ref 194 :: .int pm :: .int pn :: .ref 195 :: .ref 196 :: .int fm :: .int te :: .int gu :: pr))), (181, mtl ts), (182, ia nw), (195, ia fi), (196, ia ty)]) rfl rfl rfl rfl hlen rfl rfl rfl (ck.up (by omega)) rfl ?_
    refine bcF_eq rfl (by decide) ?_
    refine rt_ald rfl l0 ?_
    refine ow_gf rfl rfl rfl hlen rfl ?_
    refine rt_ild rfl l2 ?_
    refine rt_ico rfl ki_1 ?_
    refine ba_iadd rfl ?_
    rw [n_add]
    refine ow_ialN rfl rfl (hM (2 * j + 1) (by omega)).1 (by omega) hlen rfl ?_
    refine rt_ico rfl ki_1 ?_
    refine biT_le rfl (n_le k2 (by decide)) ?_
    refine rt_inc rfl l2 (by decide +kernel) ?_
    rw [in_2, show 2 * j + 2 = 2 * (j + 1) by omega]
    refine RT_step (pc2 := 32) rfl (fun _ _ => rfl) ?_
    exact ih (j + 1) _ (by omega) (gs_o rfl l0 rfl) (gs_o rfl l1 rfl) gs_n hq
theorem m_ck0 {H : List AE} (hlen : Nat.ble 204 H.length = true) {sm pm pn fm te gu p0 nu sg fa pl td : Int32} {n sz lim a fr kd : Nat} {wd : Int64} {pr : List Value} {nw ri lf ha : List Int32} {P Dn bo : Nat} {ts : List Int32} {B : Nat → Nat} {fi ty : List Int32} (hM : MY ts B) (hb : ∀ i, B i < 256) (hP : P ≤ 7) (hD : Dn ≤ 8) (v0 : nw[0]? = some (Int32.ofNat P)) (v1 : nw[1]? = some (Int32.ofNat Dn)) (h44 : nw[44]? = some (Int32.ofNat bo)) (hbo : bo < 256) (lr : ri.length = 7) (ll : lf.length = 7) (lh : ha.length = 8) (vp : ∀ i, i < P → ri[i]? = nw[5 + i]? ∧ lf[i]? = nw[12 + i]?) (vd : ∀ d, d < Dn → ha[d]? = nw[20 + d]?) {m : Nat} (hm : m ≤ 6) {dd : Nat} : ∀ (r j : Nat) (L : List (Nat × Value)), j + r = m → (∃ i, j ≤ i ∧ i < m ∧ ¬ (B (2 * i) < Dn ∧ B (2 * i + 1) ≤ 1)) → ev_g L 0 = some (.ref 180) → ev_g L 1 = some (.int (Int32.ofNat (2 * m))) → ev_g L 2 = some (.int (Int32.ofNat (2 * j))) → RT MM (dd + 4) 202 32 L [] (ov H [(180, mcl (Int32.ofNat 0) (Int32.ofNat 0) sz lim a fr kd nu sg fa pl wd td (pof (.int sm :: .ref 192 :: .ref 193 :: .ref 194 :: .int pm :: .int pn :: .ref 195 :: .ref 196 :: .int fm :: .int te :: .int gu :: pr))), (181, mtl ts), (182, ia nw), (195, ia fi), (196, ia ty)]) (some (.int (-1 : Int32)), ov H [(180, mcl (Int32.ofNat 0) (Int32.ofNat 0) sz lim a fr kd nu sg fa pl wd td (pof (.int sm :: .ref 192 :: .ref 193 :: .ref 194 :: .int pm :: .int pn :: .ref 195 :: .ref 196 :: .int fm :: .int te :: .int gu :: pr))), (181, mtl ts), (182, ia nw), (195, ia fi), (196, ia ty)]) := by
  intro r
  induction r with
  | zero =>
    intro j L hj ⟨i, i1, i2, i3⟩ l0 l1 l2
    omega
  | succ r ih =>
    intro j L hj ⟨i, i1, i2, i3⟩ l0 l1 l2
    have hbv := hb (2 * j + 1)
    have ck := m_isD (H := ov H [(180, mcl (Int32.ofNat 0) (Int32.ofNat 0) sz lim a fr kd nu sg fa pl wd td (pof (.int sm :: .ref 192 :: .ref 193 :: .ref 194 :: .int pm :: .int pn :: .ref 195 :: .ref 196 :: .int fm :: .int te :: .int gu :: pr))), (181, mtl ts), (182, ia nw), (195, ia fi), (196, ia ty)]) (v := B (2 * j)) (ov_hl hlen) (ov_at rfl (ov_lt hlen (by decide))) (ov_at rfl (ov_lt hlen (by decide))) v1 hD (hb _)
    by_cases k1 : B (2 * j) < Dn
    · rw [decide_eq_true k1] at ck
      by_cases k2 : B (2 * j + 1) ≤ 1
      · have ne : i ≠ j := fun e => i3 (e ▸ ⟨k1, k2⟩)
        refine rt_ild rfl l2 ?_
        refine rt_ild rfl l1 ?_
        refine biF_ge rfl (n_nle (by omega) (by omega)) ?_
        refine rt_ald rfl l0 ?_
        refine rt_ald rfl l0 ?_
        refine ow_gf rfl rfl rfl hlen rfl ?_
        refine rt_ild rfl l2 ?_
        refine ow_ialN rfl rfl (hM (2 * j) (by omega)).1 (by omega) hlen rfl ?_
        refine ow_iv1 (l2 := [(180, mcl (Int32.ofNat 0) (Int32.ofNat 0) sz lim a fr kd nu sg fa pl wd td (pof (.int sm :: .ref 192 :: .ref 193 :: .ref 194 :: .int pm :: .int pn :: .ref 195 :: .ref 196 :: .int fm :: .int te :: .int gu :: pr))), (181, mtl ts), (182, ia nw), (195, ia fi), (196, ia ty)]) rfl rfl rfl rfl hlen rfl rfl rfl (ck.up (by omega)) rfl ?_
        refine bcF_eq rfl (by decide) ?_
        refine rt_ald rfl l0 ?_
        refine ow_gf rfl rfl rfl hlen rfl ?_
        refine rt_ild rfl l2 ?_
        refine rt_ico rfl ki_1 ?_
        refine ba_iadd rfl ?_
        rw [n_add]
        refine ow_ialN rfl rfl (hM (2 * j + 1) (by omega)).1 (by omega) hlen rfl ?_
        refine rt_ico rfl ki_1 ?_
        refine biT_le rfl (n_le k2 (by decide)) ?_
        refine rt_inc rfl l2 (by decide +kernel) ?_
        rw [in_2, show 2 * j + 2 = 2 * (j + 1) by omega]
        refine RT_step (pc2 := 32) rfl (fun _ _ => rfl) ?_
        exact ih (j + 1) _ (by omega) ⟨i, by omega, i2, i3⟩ (gs_o rfl l0 rfl) (gs_o rfl l1 rfl) gs_n
      · refine rt_ild rfl l2 ?_
        refine rt_ild rfl l1 ?_
        refine biF_ge rfl (n_nle (by omega) (by omega)) ?_
        refine rt_ald rfl l0 ?_
        refine rt_ald rfl l0 ?_
        refine ow_gf rfl rfl rfl hlen rfl ?_
        refine rt_ild rfl l2 ?_
        refine ow_ialN rfl rfl (hM (2 * j) (by omega)).1 (by omega) hlen rfl ?_
        refine ow_iv1 (l2 := [(180, mcl (Int32.ofNat 0) (Int32.ofNat 0) sz lim a fr kd nu sg fa pl wd td (pof (.int sm :: .ref 192 :: .ref 193 :: .ref 194 :: .int pm :: .int pn :: .ref 195 :: .ref 196 :: .int fm :: .int te :: .int gu :: pr))), (181, mtl ts), (182, ia nw), (195, ia fi), (196, ia ty)]) rfl rfl rfl rfl hlen rfl rfl rfl (ck.up (by omega)) rfl ?_
        refine bcF_eq rfl (by decide) ?_
        refine rt_ald rfl l0 ?_
        refine ow_gf rfl rfl rfl hlen rfl ?_
        refine rt_ild rfl l2 ?_
        refine rt_ico rfl ki_1 ?_
        refine ba_iadd rfl ?_
        rw [n_add]
        refine ow_ialN rfl rfl (hM (2 * j + 1) (by omega)).1 (by omega) hlen rfl ?_
        refine rt_ico rfl ki_1 ?_
        refine biF_le rfl (n_nle (by omega) (by omega)) ?_
        refine rt_ico rfl ki_m1 ?_
        exact ow_irt rfl rfl rfl
    · rw [decide_eq_false k1] at ck
      refine rt_ild rfl l2 ?_
      refine rt_ild rfl l1 ?_
      refine biF_ge rfl (n_nle (by omega) (by omega)) ?_
      refine rt_ald rfl l0 ?_
      refine rt_ald rfl l0 ?_
      refine ow_gf rfl rfl rfl hlen rfl ?_
      refine rt_ild rfl l2 ?_
      refine ow_ialN rfl rfl (hM (2 * j) (by omega)).1 (by omega) hlen rfl ?_
      refine ow_iv1 (l2 := [(180, mcl (Int32.ofNat 0) (Int32.ofNat 0) sz lim a fr kd nu sg fa pl wd td (pof (.int sm :: .ref 192 :: .ref 193 :: .ref 194 :: .int pm :: .int pn :: .ref 195 :: .ref 196 :: .int fm :: .int te :: .int gu :: pr))), (181, mtl ts), (182, ia nw), (195, ia fi), (196, ia ty)]) rfl rfl rfl rfl hlen rfl rfl rfl (ck.up (by omega)) rfl ?_
      refine bcT_eq rfl rfl ?_
      refine rt_ico rfl ki_m1 ?_
      exact ow_irt rfl rfl rfl
theorem m_so {H : List AE} (hlen : Nat.ble 204 H.length = true) {sm pm pn fm te gu p0 nu sg fa pl td : Int32} {n sz lim a fr kd : Nat} {wd : Int64} {pr : List Value} {nw ri lf ha : List Int32} {P Dn bo : Nat} {ts : List Int32} {B : Nat → Nat} {fi ty : List Int32} (hM : MY ts B) (hb : ∀ i, B i < 256) (hP : P ≤ 7) (hD : Dn ≤ 8) (v0 : nw[0]? = some (Int32.ofNat P)) (v1 : nw[1]? = some (Int32.ofNat Dn)) (h44 : nw[44]? = some (Int32.ofNat bo)) (hbo : bo < 256) (lr : ri.length = 7) (ll : lf.length = 7) (lh : ha.length = 8) (vp : ∀ i, i < P → ri[i]? = nw[5 + i]? ∧ lf[i]? = nw[12 + i]?) (vd : ∀ d, d < Dn → ha[d]? = nw[20 + d]?) {m : Nat} (hm : m ≤ 6) (hg : ∀ i, i < m → B (2 * i) < Dn ∧ B (2 * i + 1) ≤ 1) {c k : Nat} (hc : c < 3 * P) {dd : Nat} {q : ev_R} : ∀ (r j : Nat) (so : Bool) (L : List (Nat × Value)), j + r = m → ev_g L 0 = some (.ref 180) → ev_g L 1 = some (.int (Int32.ofNat (2 * m))) → ev_g L 2 = some (.int (Int32.ofNat k)) → ev_g L 3 = some (.int (Int32.ofNat c)) → ev_g L 4 = some (.int (b01 so)) → ev_g L 5 = some (.int (Int32.ofNat (2 * j))) → (∀ L2, ev_g L2 0 = some (.ref 180) → ev_g L2 1 = some (.int (Int32.ofNat (2 * m))) → ev_g L2 2 = some (.int (Int32.ofNat k)) → ev_g L2 3 = some (.int (Int32.ofNat c)) → ev_g L2 4 = some (.int (b01 (soL (fun d => KK' bo d ri lf ha c) B r j so))) → RT MM (dd + 4) 202 149 L2 [] (ov H [(180, mcl (Int32.ofNat 0) (Int32.ofNat 0) sz lim a fr kd nu sg fa pl wd td (pof (.int sm :: .ref 192 :: .ref 193 :: .ref 194 :: .int pm :: .int pn :: .ref 195 :: .ref 196 :: .int fm :: .int te :: .int gu :: pr))), (181, mtl ts), (182, ia nw), (195, ia fi), (196, ia ty)]) q) → RT MM (dd + 4) 202 92 L [] (ov H [(180, mcl (Int32.ofNat 0) (Int32.ofNat 0) sz lim a fr kd nu sg fa pl wd td (pof (.int sm :: .ref 192 :: .ref 193 :: .ref 194 :: .int pm :: .int pn :: .ref 195 :: .ref 196 :: .int fm :: .int te :: .int gu :: pr))), (181, mtl ts), (182, ia nw), (195, ia fi), (196, ia ty)]) q := by
  intro r
  induction r with
  | zero =>
    intro j so L hj l0 l1 l2 l3 l4 l5 hq
    refine rt_il2 rfl l5 ?_
    refine rt_ild rfl l1 ?_
    refine biT_ge rfl (n_le (by omega) (by omega)) ?_
    exact hq _ l0 l1 l2 l3 l4
  | succ r ih =>
    intro j so L hj l0 l1 l2 l3 l4 l5 hq
    obtain ⟨k1, k2⟩ := hg j (by omega)
    have cc := m_cc (H := ov H [(180, mcl (Int32.ofNat 0) (Int32.ofNat 0) sz lim a fr kd nu sg fa pl wd td (pof (.int sm :: .ref 192 :: .ref 193 :: .ref 194 :: .int pm :: .int pn :: .ref 195 :: .ref 196 :: .int fm :: .int te :: .int gu :: pr))), (181, mtl ts), (182, ia nw), (195, ia fi), (196, ia ty)]) (d := B (2 * j)) (ov_hl hlen) (ov_at rfl (ov_lt hlen (by decide))) (ov_at rfl (ov_lt hlen (by decide))) h44 hbo (by omega) hc hP lr ll lh vp (vd _ k1)
    have hs : ∀ v, (so && (KK' bo (B (2 * j)) ri lf ha c == decide (B (2 * j + 1) = 1))) = v → soL (fun d => KK' bo d ri lf ha c) B (r + 1) j so = soL (fun d => KK' bo d ri lf ha c) B r (j + 1) v := fun v e => congrArg (soL (fun d => KK' bo d ri lf ha c) B r (j + 1)) e
    cases so with
    | false =>
      rw [hs false rfl] at hq
      refine rt_il2 rfl l5 ?_
      refine rt_ild rfl l1 ?_
      refine biF_ge rfl (n_nle (by omega) (by omega)) ?_
      refine rt_il2 rfl l4 ?_
      refine bcT_eq rfl rfl ?_
      refine rt_ico rfl ki_0 ?_
      refine rt_is2 rfl (by decide +kernel) ?_
      refine rt_inc rfl (gs_o rfl l5 rfl) (by decide +kernel) ?_
      rw [in_2, show 2 * j + 2 = 2 * (j + 1) by omega]
      refine RT_step (pc2 := 92) rfl (fun _ _ => rfl) ?_
      exact ih (j + 1) false _ (by omega) (gs_o rfl (gs_o rfl l0 rfl) rfl) (gs_o rfl (gs_o rfl l1 rfl) rfl) (gs_o rfl (gs_o rfl l2 rfl) rfl) (gs_o rfl (gs_o rfl l3 rfl) rfl) (gs_o rfl gs_n rfl) gs_n hq
    | true =>
      cases e : KK' bo (B (2 * j)) ri lf ha c with
      | true =>
        rw [e] at cc hs
        by_cases c1 : B (2 * j + 1) = 1
        · rw [hs true (by rw [decide_eq_true c1]; rfl)] at hq
          refine rt_il2 rfl l5 ?_
          refine rt_ild rfl l1 ?_
          refine biF_ge rfl (n_nle (by omega) (by omega)) ?_
          refine rt_il2 rfl l4 ?_
          refine bcF_eq rfl (by decide) ?_
          refine rt_ald rfl l0 ?_
          refine rt_ild rfl l3 ?_
          refine rt_ald rfl l0 ?_
          refine ow_gf rfl rfl rfl hlen rfl ?_
          refine rt_il2 rfl l5 ?_
          refine ow_ialN rfl rfl (hM (2 * j) (by omega)).1 (by omega) hlen rfl ?_
          refine ow_iv1 (l2 := [(180, mcl (Int32.ofNat 0) (Int32.ofNat 0) sz lim a fr kd nu sg fa pl wd td (pof (.int sm :: .ref 192 :: .ref 193 :: .ref 194 :: .int pm :: .int pn :: .ref 195 :: .ref 196 :: .int fm :: .int te :: .int gu :: pr))), (181, mtl ts), (182, ia nw), (195, ia fi), (196, ia ty)]) rfl rfl rfl rfl hlen rfl rfl rfl (cc.up (by omega)) rfl ?_
          refine rt_ald rfl l0 ?_
          refine ow_gf rfl rfl rfl hlen rfl ?_
          refine rt_il2 rfl l5 ?_
          refine rt_ico rfl ki_1 ?_
          refine ba_iadd rfl ?_
          rw [n_add]
          refine ow_ialN rfl rfl (hM (2 * j + 1) (by omega)).1 (by omega) hlen rfl ?_
          refine rt_ico rfl ki_1 ?_
          refine biT_ne rfl (n_eq c1) ?_
          refine rt_ico rfl ki_1 ?_
          refine RT_step (pc2 := 133) rfl (fun _ _ => rfl) ?_
          refine biT_ne rfl rfl ?_
          refine rt_ico rfl ki_1 ?_
          refine RT_step (pc2 := 141) rfl (fun _ _ => rfl) ?_
          refine rt_is2 rfl (by decide +kernel) ?_
          refine rt_inc rfl (gs_o rfl l5 rfl) (by decide +kernel) ?_
          rw [in_2, show 2 * j + 2 = 2 * (j + 1) by omega]
          refine RT_step (pc2 := 92) rfl (fun _ _ => rfl) ?_
          exact ih (j + 1) true _ (by omega) (gs_o rfl (gs_o rfl l0 rfl) rfl) (gs_o rfl (gs_o rfl l1 rfl) rfl) (gs_o rfl (gs_o rfl l2 rfl) rfl) (gs_o rfl (gs_o rfl l3 rfl) rfl) (gs_o rfl gs_n rfl) gs_n hq
        · rw [hs false (by rw [decide_eq_false c1]; rfl)] at hq
          refine rt_il2 rfl l5 ?_
          refine rt_ild rfl l1 ?_
          refine biF_ge rfl (n_nle (by omega) (by omega)) ?_
          refine rt_il2 rfl l4 ?_
          refine bcF_eq rfl (by decide) ?_
          refine rt_ald rfl l0 ?_
          refine rt_ild rfl l3 ?_
          refine rt_ald rfl l0 ?_
          refine ow_gf rfl rfl rfl hlen rfl ?_
          refine rt_il2 rfl l5 ?_
          refine ow_ialN rfl rfl (hM (2 * j) (by omega)).1 (by omega) hlen rfl ?_
          refine ow_iv1 (l2 := [(180, mcl (Int32.ofNat 0) (Int32.ofNat 0) sz lim a fr kd nu sg fa pl wd td (pof (.int sm :: .ref 192 :: .ref 193 :: .ref 194 :: .int pm :: .int pn :: .ref 195 :: .ref 196 :: .int fm :: .int te :: .int gu :: pr))), (181, mtl ts), (182, ia nw), (195, ia fi), (196, ia ty)]) rfl rfl rfl rfl hlen rfl rfl rfl (cc.up (by omega)) rfl ?_
          refine rt_ald rfl l0 ?_
          refine ow_gf rfl rfl rfl hlen rfl ?_
          refine rt_il2 rfl l5 ?_
          refine rt_ico rfl ki_1 ?_
          refine ba_iadd rfl ?_
          rw [n_add]
          refine ow_ialN rfl rfl (hM (2 * j + 1) (by omega)).1 (by omega) hlen rfl ?_
          refine rt_ico rfl ki_1 ?_
          refine biF_ne rfl (n_ne c1 (by omega) (by decide)) ?_
          refine rt_ico rfl ki_0 ?_
          refine biF_ne rfl (by decide) ?_
          refine rt_ico rfl ki_0 ?_
          refine rt_is2 rfl (by decide +kernel) ?_
          refine rt_inc rfl (gs_o rfl l5 rfl) (by decide +kernel) ?_
          rw [in_2, show 2 * j + 2 = 2 * (j + 1) by omega]
          refine RT_step (pc2 := 92) rfl (fun _ _ => rfl) ?_
          exact ih (j + 1) false _ (by omega) (gs_o rfl (gs_o rfl l0 rfl) rfl) (gs_o rfl (gs_o rfl l1 rfl) rfl) (gs_o rfl (gs_o rfl l2 rfl) rfl) (gs_o rfl (gs_o rfl l3 rfl) rfl) (gs_o rfl gs_n rfl) gs_n hq
      | false =>
        rw [e] at cc hs
        by_cases c1 : B (2 * j + 1) = 1
        · rw [hs false (by rw [decide_eq_true c1]; rfl)] at hq
          refine rt_il2 rfl l5 ?_
          refine rt_ild rfl l1 ?_
          refine biF_ge rfl (n_nle (by omega) (by omega)) ?_
          refine rt_il2 rfl l4 ?_
          refine bcF_eq rfl (by decide) ?_
          refine rt_ald rfl l0 ?_
          refine rt_ild rfl l3 ?_
          refine rt_ald rfl l0 ?_
          refine ow_gf rfl rfl rfl hlen rfl ?_
          refine rt_il2 rfl l5 ?_
          refine ow_ialN rfl rfl (hM (2 * j) (by omega)).1 (by omega) hlen rfl ?_
          refine ow_iv1 (l2 := [(180, mcl (Int32.ofNat 0) (Int32.ofNat 0) sz lim a fr kd nu sg fa pl wd td (pof (.int sm :: .ref 192 :: .ref 193 :: .ref 194 :: .int pm :: .int pn :: .ref 195 :: .ref 196 :: .int fm :: .int te :: .int gu :: pr))), (181, mtl ts), (182, ia nw), (195, ia fi), (196, ia ty)]) rfl rfl rfl rfl hlen rfl rfl rfl (cc.up (by omega)) rfl ?_
          refine rt_ald rfl l0 ?_
          refine ow_gf rfl rfl rfl hlen rfl ?_
          refine rt_il2 rfl l5 ?_
          refine rt_ico rfl ki_1 ?_
          refine ba_iadd rfl ?_
          rw [n_add]
          refine ow_ialN rfl rfl (hM (2 * j + 1) (by omega)).1 (by omega) hlen rfl ?_
          refine rt_ico rfl ki_1 ?_
          refine biT_ne rfl (n_eq c1) ?_
          refine rt_ico rfl ki_1 ?_
          refine RT_step (pc2 := 133) rfl (fun _ _ => rfl) ?_
          refine biF_ne rfl (by decide) ?_
          refine rt_ico rfl ki_0 ?_
          refine rt_is2 rfl (by decide +kernel) ?_
          refine rt_inc rfl (gs_o rfl l5 rfl) (by decide +kernel) ?_
          rw [in_2, show 2 * j + 2 = 2 * (j + 1) by omega]
          refine RT_step (pc2 := 92) rfl (fun _ _ => rfl) ?_
          exact ih (j + 1) false _ (by omega) (gs_o rfl (gs_o rfl l0 rfl) rfl) (gs_o rfl (gs_o rfl l1 rfl) rfl) (gs_o rfl (gs_o rfl l2 rfl) rfl) (gs_o rfl (gs_o rfl l3 rfl) rfl) (gs_o rfl gs_n rfl) gs_n hq
        · rw [hs true (by rw [decide_eq_false c1]; rfl)] at hq
          refine rt_il2 rfl l5 ?_
          refine rt_ild rfl l1 ?_
          refine biF_ge rfl (n_nle (by omega) (by omega)) ?_
          refine rt_il2 rfl l4 ?_
          refine bcF_eq rfl (by decide) ?_
          refine rt_ald rfl l0 ?_
          refine rt_ild rfl l3 ?_
          refine rt_ald rfl l0 ?_
          refine ow_gf rfl rfl rfl hlen rfl ?_
          refine rt_il2 rfl l5 ?_
          refine ow_ialN rfl rfl (hM (2 * j) (by omega)).1 (by omega) hlen rfl ?_
          refine ow_iv1 (l2 := [(180, mcl (Int32.ofNat 0) (Int32.ofNat 0) sz lim a fr kd nu sg fa pl wd td (pof (.int sm :: .ref 192 :: .ref 193 :: .ref 194 :: .int pm :: .int pn :: .ref 195 :: .ref 196 :: .int fm :: .int te :: .int gu :: pr))), (181, mtl ts), (182, ia nw), (195, ia fi), (196, ia ty)]) rfl rfl rfl rfl hlen rfl rfl rfl (cc.up (by omega)) rfl ?_
          refine rt_ald rfl l0 ?_
          refine ow_gf rfl rfl rfl hlen rfl ?_
          refine rt_il2 rfl l5 ?_
          refine rt_ico rfl ki_1 ?_
          refine ba_iadd rfl ?_
          rw [n_add]
          refine ow_ialN rfl rfl (hM (2 * j + 1) (by omega)).1 (by omega) hlen rfl ?_
          refine rt_ico rfl ki_1 ?_
          refine biF_ne rfl (n_ne c1 (by omega) (by decide)) ?_
          refine rt_ico rfl ki_0 ?_
          refine biT_ne rfl rfl ?_
          refine rt_ico rfl ki_1 ?_
          refine RT_step (pc2 := 141) rfl (fun _ _ => rfl) ?_
          refine rt_is2 rfl (by decide +kernel) ?_
          refine rt_inc rfl (gs_o rfl l5 rfl) (by decide +kernel) ?_
          rw [in_2, show 2 * j + 2 = 2 * (j + 1) by omega]
          refine RT_step (pc2 := 92) rfl (fun _ _ => rfl) ?_
          exact ih (j + 1) true _ (by omega) (gs_o rfl (gs_o rfl l0 rfl) rfl) (gs_o rfl (gs_o rfl l1 rfl) rfl) (gs_o rfl (gs_o rfl l2 rfl) rfl) (gs_o rfl (gs_o rfl l3 rfl) rfl) (gs_o rfl gs_n rfl) gs_n hq
def tyL (b : Nat) : Nat → Nat → List Int32 → List Int32
  | 0, _, ty => ty
  | r + 1, c, ty => tyL b r (c + 1) (cond (b.testBit c) (ty.set (cnt b c) (Int32.ofNat c)) ty)
theorem tyL_1 {b r c : Nat} {ty : List Int32} (h : b.testBit c = true) : tyL b (r + 1) c ty = tyL b r (c + 1) (ty.set (cnt b c) (Int32.ofNat c)) := by
  show tyL b r (c + 1) (cond (b.testBit c) (ty.set (cnt b c) (Int32.ofNat c)) ty) = _
  rw [h]; rfl
theorem tyL_0 {b r c : Nat} {ty : List Int32} (h : b.testBit c = false) : tyL b (r + 1) c ty = tyL b r (c + 1) ty := by
  show tyL b r (c + 1) (cond (b.testBit c) (ty.set (cnt b c) (Int32.ofNat c)) ty) = _
  rw [h]; rfl
theorem tyL_ok {b : Nat} : ∀ (r c : Nat) (ty : List Int32), c + r ≤ 21 → ty.length = 21 → (∀ x, x < c → b.testBit x = true → ty[cnt b x]? = some (Int32.ofNat x)) → (tyL b r c ty).length = 21 ∧ ∀ x, x < c + r → b.testBit x = true → (tyL b r c ty)[cnt b x]? = some (Int32.ofNat x)
  | 0, _, _, _, h2, h3 => ⟨h2, h3⟩
  | r + 1, c, ty, h1, h2, h3 => by
    have hcl := cnt_le (b := b) c
    cases e : b.testBit c with
    | true =>
      rw [tyL_1 e]
      have h := tyL_ok r (c + 1) (ty.set (cnt b c) (Int32.ofNat c)) (by omega) (by rw [List.length_set]; exact h2) (fun x hx hb9 => by
        by_cases k : x = c
        · subst k; exact List.getElem?_set_self (by omega)
        · rw [List.getElem?_set_ne (fun q => k (cnt_in e hb9 q).symm)]
          exact h3 x (by omega) hb9)
      exact ⟨h.1, fun x hx => h.2 x (by omega)⟩
    | false =>
      rw [tyL_0 e]
      have h := tyL_ok r (c + 1) ty (by omega) h2 (fun x hx hb9 => by
        by_cases k : x = c
        · subst k; rw [e] at hb9; cases hb9
        · exact h3 x (by omega) hb9)
      exact ⟨h.1, fun x hx => h.2 x (by omega)⟩
theorem m_ha {H : List AE} (hlen : Nat.ble 204 H.length = true) {sm pm pn fm te gu p0 nu sg fa pl td : Int32} {n sz lim a fr kd : Nat} {wd : Int64} {pr : List Value} {nw ri lf ha : List Int32} {P Dn bo : Nat} {ts : List Int32} {B : Nat → Nat} {fi : List Int32} (hM : MY ts B) (hb : ∀ i, B i < 256) (hP : P ≤ 7) (hD : Dn ≤ 8) (v0 : nw[0]? = some (Int32.ofNat P)) (v1 : nw[1]? = some (Int32.ofNat Dn)) (h44 : nw[44]? = some (Int32.ofNat bo)) (hbo : bo < 256) (lr : ri.length = 7) (ll : lf.length = 7) (lh : ha.length = 8) (vp : ∀ i, i < P → ri[i]? = nw[5 + i]? ∧ lf[i]? = nw[12 + i]?) (vd : ∀ d, d < Dn → ha[d]? = nw[20 + d]?) {m : Nat} (hm : m ≤ 6) (hg : ∀ i, i < m → B (2 * i) < Dn ∧ B (2 * i + 1) ≤ 1) {b : Nat} (hbt : ∀ c, c < 3 * P → b.testBit c = soL (fun d => KK' bo d ri lf ha c) B m 0 true) {dd : Nat} {q : ev_R} : ∀ (r c : Nat) (ty : List Int32) (L : List (Nat × Value)), c + r = 3 * P → ty.length = 21 → ev_g L 0 = some (.ref 180) → ev_g L 1 = some (.int (Int32.ofNat (2 * m))) → ev_g L 2 = some (.int (Int32.ofNat (cnt b c))) → ev_g L 3 = some (.int (Int32.ofNat c)) → (∀ L2, ev_g L2 0 = some (.ref 180) → ev_g L2 2 = some (.int (Int32.ofNat (cnt b (3 * P)))) → RT MM (dd + 4) 202 173 L2 [] (ov H [(180, mcl (Int32.ofNat 0) (Int32.ofNat 0) sz lim a fr kd nu sg fa pl wd td (pof (.int sm :: .ref 192 :: .ref 193 :: .ref 194 :: .int pm :: .int pn :: .ref 195 :: .ref 196 :: .int fm :: .int te :: .int gu :: pr))), (181, mtl ts), (182, ia nw), (195, ia fi), (196, ia (tyL b r c ty))]) q) → RT MM (dd + 4) 202 74 L [] (ov H [(180, mcl (Int32.ofNat 0) (Int32.ofNat 0) sz lim a fr kd nu sg fa pl wd td (pof (.int sm :: .ref 192 :: .ref 193 :: .ref 194 :: .int pm :: .int pn :: .ref 195 :: .ref 196 :: .int fm :: .int te :: .int gu :: pr))), (181, mtl ts), (182, ia nw), (195, ia fi), (196, ia ty)]) q := by
  intro r
  induction r with
  | zero =>
    intro c ty L hc lt l0 l1 l2 l3 hq
    have hi : c = 3 * P := by omega
    subst hi
    refine rt_ild rfl l3 ?_
    refine rt_ico rfl ki_3 ?_
    refine rt_ald rfl l0 ?_
    refine ow_gf rfl rfl rfl hlen rfl ?_
    refine rt_ico rfl ki_0 ?_
    refine ow_ialN rfl rfl v0 (by omega) hlen rfl ?_
    refine ba_imul rfl ?_
    rw [n_mul]
    refine biT_ge rfl (n_le (by omega) (by omega)) ?_
    exact hq _ l0 l2
  | succ r ih =>
    intro c ty L hc lt l0 l1 l2 l3 hq
    have hcl := cnt_le (b := b) c
    refine rt_ild rfl l3 ?_
    refine rt_ico rfl ki_3 ?_
    refine rt_ald rfl l0 ?_
    refine ow_gf rfl rfl rfl hlen rfl ?_
    refine rt_ico rfl ki_0 ?_
    refine ow_ialN rfl rfl v0 (by omega) hlen rfl ?_
    refine ba_imul rfl ?_
    rw [n_mul]
    refine biF_ge rfl (n_nle (by omega) (by omega)) ?_
    refine rt_ico rfl ki_1 ?_
    refine rt_is2 rfl (by decide +kernel) ?_
    refine rt_ico rfl ki_0 ?_
    refine rt_is2 rfl (by decide +kernel) ?_
    refine m_so (n := 0) (p0 := 0) hlen hM hb hP hD v0 v1 h44 hbo lr ll lh vp vd hm hg (c := c) (k := cnt b c) (by omega) m 0 true _ (by omega) (gs_o rfl (gs_o rfl l0 rfl) rfl) (gs_o rfl (gs_o rfl l1 rfl) rfl) (gs_o rfl (gs_o rfl l2 rfl) rfl) (gs_o rfl (gs_o rfl l3 rfl) rfl) (gs_o rfl gs_n rfl) gs_n (fun L2 m0 m1 m2 m3 m4 => ?_)
    rw [← hbt c (by omega)] at m4
    cases e : b.testBit c with
    | true =>
      rw [e] at m4
      have ha2 : cnt b (c + 1) = cnt b c + 1 := cnt_t e
      rw [tyL_1 e] at hq
      refine rt_il2 rfl m4 ?_
      refine bcF_ne rfl (by decide) ?_
      refine rt_ald rfl m0 ?_
      refine ow_gf rfl rfl rfl hlen rfl ?_
      refine rt_ild rfl m2 ?_
      refine rt_ild rfl m3 ?_
      refine ow_iasN rfl rfl (by omega) (by omega) hlen rfl rfl ?_
      refine rt_inc rfl m2 (by decide +kernel) ?_
      rw [in_1, ← ha2]
      refine rt_inc rfl (gs_o rfl m3 rfl) (by decide +kernel) ?_
      rw [in_1]
      refine RT_step (pc2 := 74) rfl (fun _ _ => rfl) ?_
      exact ih (c + 1) _ _ (by omega) (by rw [List.length_set]; exact lt) (gs_o rfl (gs_o rfl m0 rfl) rfl) (gs_o rfl (gs_o rfl m1 rfl) rfl) (gs_o rfl gs_n rfl) gs_n hq
    | false =>
      rw [e] at m4
      have ha2 : cnt b (c + 1) = cnt b c := cnt_f e
      rw [← ha2] at m2
      rw [tyL_0 e] at hq
      refine rt_il2 rfl m4 ?_
      refine bcT_ne rfl rfl ?_
      refine RT_step (pc2 := 167) rfl (fun _ _ => rfl) ?_
      refine rt_inc rfl m3 (by decide +kernel) ?_
      rw [in_1]
      refine RT_step (pc2 := 74) rfl (fun _ _ => rfl) ?_
      exact ih (c + 1) ty _ (by omega) lt (gs_o rfl m0 rfl) (gs_o rfl m1 rfl) (gs_o rfl m2 rfl) gs_n hq
theorem m_cpf {H : List AE} (hlen : Nat.ble 204 H.length = true) {sm pm pn fm te gu p0 nu sg fa pl td : Int32} {n sz lim a fr kd : Nat} {wd : Int64} {pr : List Value} {nw ri lf ha : List Int32} {P Dn bo : Nat} {ts : List Int32} {B : Nat → Nat} {ty : List Int32} (lt9 : ty.length = 21) {k9 : Nat} (hk : k9 ≤ 21) {dd : Nat} {q : ev_R} : ∀ (r i : Nat) (fi : List Int32) (L : List (Nat × Value)), i + r = k9 → fi.length = 21 → ev_g L 0 = some (.ref 180) → ev_g L 2 = some (.int (Int32.ofNat k9)) → ev_g L 3 = some (.int (Int32.ofNat i)) → (∀ L2, ev_g L2 0 = some (.ref 180) → ev_g L2 2 = some (.int (Int32.ofNat k9)) → RT MM (dd + 4) 202 204 L2 [] (ov H [(180, mcl (Int32.ofNat 0) (Int32.ofNat 0) sz lim a fr kd nu sg fa pl wd td (pof (.int sm :: .ref 192 :: .ref 193 :: .ref 194 :: .int pm :: .int pn :: .ref 195 :: .ref 196 :: .int fm :: .int te :: .int gu :: pr))), (181, mtl ts), (182, ia nw), (195, ia (cpl ty fi r i)), (196, ia ty)]) q) → RT MM (dd + 4) 202 181 L [] (ov H [(180, mcl (Int32.ofNat 0) (Int32.ofNat 0) sz lim a fr kd nu sg fa pl wd td (pof (.int sm :: .ref 192 :: .ref 193 :: .ref 194 :: .int pm :: .int pn :: .ref 195 :: .ref 196 :: .int fm :: .int te :: .int gu :: pr))), (181, mtl ts), (182, ia nw), (195, ia fi), (196, ia ty)]) q := by
  intro r
  induction r with
  | zero =>
    intro i fi L hi lf l0 l2 l3 hq
    have hi : i = k9 := by omega
    subst hi
    refine rt_ild rfl l3 ?_
    refine rt_ild rfl l2 ?_
    refine biT_ge rfl (n_le (Nat.le_refl _) (by omega)) ?_
    exact hq _ l0 l2
  | succ r ih =>
    intro i fi L hi lf l0 l2 l3 hq
    have e := gd_i (arr := ty) (i := i) (by omega)
    rw [cpl_s e] at hq
    refine rt_ild rfl l3 ?_
    refine rt_ild rfl l2 ?_
    refine biF_ge rfl (n_nle (by omega) (by omega)) ?_
    refine rt_ald rfl l0 ?_
    refine ow_gf rfl rfl rfl hlen rfl ?_
    refine rt_ild rfl l3 ?_
    refine rt_ald rfl l0 ?_
    refine ow_gf rfl rfl rfl hlen rfl ?_
    refine rt_ild rfl l3 ?_
    refine ow_ialN rfl rfl e (by omega) hlen rfl ?_
    refine ow_iasN rfl rfl (by omega) (by omega) hlen rfl rfl ?_
    refine rt_inc rfl l3 (by decide +kernel) ?_
    rw [in_1]
    refine RT_step (pc2 := 181) rfl (fun _ _ => rfl) ?_
    exact ih (i + 1) _ _ (by omega) (by rw [List.length_set]; exact lf) (gs_o rfl l0 rfl) (gs_o rfl l2 rfl) gs_n hq
theorem m_obL {H : List AE} (hlen : Nat.ble 204 H.length = true) {sm pm pn fm te gu p0 p2 nu sg fa pl td : Int32} {sz lim a fr kd : Nat} {wd : Int64} {pr : List Value} {nw : List Int32} {P Dn bo d : Nat} {ri lf ha fi : List Int32} (hP : P ≤ 7) (hd : d < 8) (h44 : nw[44]? = some (Int32.ofNat bo)) (hbo : bo < 256) (lr : ri.length = 7) (ll : lf.length = 7) (lh : ha.length = 8) (vp : ∀ i, i < P → ri[i]? = nw[5 + i]? ∧ lf[i]? = nw[12 + i]?) (vd : ha[d]? = nw[20 + d]?) {b : Nat} (hb : b < 2 ^ (3 * P)) (hf : ∀ x, b.testBit x = true → fi[cnt b x]? = some (Int32.ofNat x)) {dd : Nat} {q : ev_R} : ∀ (r k e : Nat) (L : List (Nat × Value)), k + r = cnt b 21 → e ≤ 21 → cnt b e = k → ev_g L 0 = some (.ref 180) → ev_g L 1 = some (.int (Int32.ofNat d)) → ev_g L 2 = some (.int (Int32.ofNat (cnt b 21))) → ev_g L 3 = some (.int (Int32.ofNat (cnt (b &&& (cbL (KK' bo d ri lf ha) (3 * P) 0 0)) e))) → ev_g L 4 = some (.int (Int32.ofNat k)) → (∀ L2, ev_g L2 2 = some (.int (Int32.ofNat (cnt b 21))) → ev_g L2 3 = some (.int (Int32.ofNat (cnt (b &&& (cbL (KK' bo d ri lf ha) (3 * P) 0 0)) 21))) → RT MM (dd + 3) 235 35 L2 [] (ov H [(180, mcl p0 p2 sz lim a fr kd nu sg fa pl wd td (pof (.int sm :: .ref 192 :: .ref 193 :: .ref 194 :: .int pm :: .int pn :: .ref 195 :: .ref 196 :: .int fm :: .int te :: .int gu :: pr))), (182, ia nw), (195, ia fi)]) q) → RT MM (dd + 3) 235 5 L [] (ov H [(180, mcl p0 p2 sz lim a fr kd nu sg fa pl wd td (pof (.int sm :: .ref 192 :: .ref 193 :: .ref 194 :: .int pm :: .int pn :: .ref 195 :: .ref 196 :: .int fm :: .int te :: .int gu :: pr))), (182, ia nw), (195, ia fi)]) q := by
  have h21 : (2 : Nat) ^ (3 * P) ≤ 2 ^ 21 := Nat.pow_le_pow_right (by decide) (by omega)
  have c21 := cnt_le (b := b) 21
  intro r
  induction r with
  | zero =>
    intro k e L hk he hc l0 l1 l2 l3 l4 hq
    have hs := cnt_same (b := b) (x := (cbL (KK' bo d ri lf ha) (3 * P) 0 0)) (e := e) (k := 21 - e) (by rw [show e + (21 - e) = 21 by omega]; omega)
    rw [show e + (21 - e) = 21 by omega] at hs
    rw [hs] at l3
    refine rt_il2 rfl l4 ?_
    refine rt_ild rfl l2 ?_
    refine biT_ge rfl (n_le (by omega) (by omega)) ?_
    exact hq _ l2 l3
  | succ r ih =>
    intro k e L hk he hc l0 l1 l2 l3 l4 hq
    obtain ⟨c, c1, c2, c3⟩ := cnt_ex (b := b) (k := k) 21 (by omega)
    have hce : e ≤ c := by
      by_cases q9 : e ≤ c
      · exact q9
      · have := cnt_mono (b := b) (i := c + 1) (k := e - (c + 1))
        rw [show c + 1 + (e - (c + 1)) = e by omega, cnt_t c2] at this
        omega
    have hs := cnt_same (b := b) (x := (cbL (KK' bo d ri lf ha) (3 * P) 0 0)) (e := e) (k := c - e) (by rw [show e + (c - e) = c by omega]; omega)
    rw [show e + (c - e) = c by omega] at hs
    rw [hs] at l3
    have hc3 : c < 3 * P := bit_lt hb c2
    have hfi := hf c c2
    rw [c3] at hfi
    have hn9 := cnt_le (b := b &&& (cbL (KK' bo d ri lf ha) (3 * P) 0 0)) c
    have cc := m_cc (H := ov H [(180, mcl p0 p2 sz lim a fr kd nu sg fa pl wd td (pof (.int sm :: .ref 192 :: .ref 193 :: .ref 194 :: .int pm :: .int pn :: .ref 195 :: .ref 196 :: .int fm :: .int te :: .int gu :: pr))), (182, ia nw), (195, ia fi)]) (c := c) (ov_hl hlen) (ov_at rfl (ov_lt hlen (by decide))) (ov_at rfl (ov_lt hlen (by decide))) h44 hbo hd hc3 hP lr ll lh vp vd
    have hbit : (b &&& (cbL (KK' bo d ri lf ha) (3 * P) 0 0)).testBit c = KK' bo d ri lf ha c := by
      rw [Nat.testBit_and, c2, Bool.true_and, Bool.eq_iff_iff, cbL_bit]
      constructor
      · rintro (z | z)
        · rw [Nat.zero_testBit] at z; cases z
        · exact z.2.2
      · intro z; exact Or.inr ⟨Nat.zero_le c, by omega, z⟩
    cases z : KK' bo d ri lf ha c with
    | true =>
      rw [z] at cc hbit
      refine rt_il2 rfl l4 ?_
      refine rt_ild rfl l2 ?_
      refine biF_ge rfl (n_nle (by omega) (by omega)) ?_
      refine rt_ald rfl l0 ?_
      refine rt_ald rfl l0 ?_
      refine ow_gf rfl rfl rfl hlen rfl ?_
      refine rt_il2 rfl l4 ?_
      refine ow_ialN rfl rfl hfi (by omega) hlen rfl ?_
      refine rt_ild rfl l1 ?_
      refine ow_iv1 (l2 := [(180, mcl p0 p2 sz lim a fr kd nu sg fa pl wd td (pof (.int sm :: .ref 192 :: .ref 193 :: .ref 194 :: .int pm :: .int pn :: .ref 195 :: .ref 196 :: .int fm :: .int te :: .int gu :: pr))), (182, ia nw), (195, ia fi)]) rfl rfl rfl rfl hlen rfl rfl rfl (cc.up (by omega)) rfl ?_
      refine bcF_eq rfl (by decide) ?_
      refine rt_inc rfl l3 (by decide +kernel) ?_
      rw [in_1, ← cnt_t hbit]
      refine rt_inc rfl (gs_o rfl l4 rfl) (by decide +kernel) ?_
      rw [in_1]
      refine RT_step (pc2 := 5) rfl (fun _ _ => rfl) ?_
      exact ih (k + 1) (c + 1) _ (by omega) (by omega) (by rw [cnt_t c2, c3]) (gs_o rfl (gs_o rfl l0 rfl) rfl) (gs_o rfl (gs_o rfl l1 rfl) rfl) (gs_o rfl (gs_o rfl l2 rfl) rfl) (gs_o rfl gs_n rfl) gs_n hq
    | false =>
      rw [z] at cc hbit
      rw [← cnt_f hbit] at l3
      refine rt_il2 rfl l4 ?_
      refine rt_ild rfl l2 ?_
      refine biF_ge rfl (n_nle (by omega) (by omega)) ?_
      refine rt_ald rfl l0 ?_
      refine rt_ald rfl l0 ?_
      refine ow_gf rfl rfl rfl hlen rfl ?_
      refine rt_il2 rfl l4 ?_
      refine ow_ialN rfl rfl hfi (by omega) hlen rfl ?_
      refine rt_ild rfl l1 ?_
      refine ow_iv1 (l2 := [(180, mcl p0 p2 sz lim a fr kd nu sg fa pl wd td (pof (.int sm :: .ref 192 :: .ref 193 :: .ref 194 :: .int pm :: .int pn :: .ref 195 :: .ref 196 :: .int fm :: .int te :: .int gu :: pr))), (182, ia nw), (195, ia fi)]) rfl rfl rfl rfl hlen rfl rfl rfl (cc.up (by omega)) rfl ?_
      refine bcT_eq rfl rfl ?_
      refine rt_inc rfl l4 (by decide +kernel) ?_
      rw [in_1]
      refine RT_step (pc2 := 5) rfl (fun _ _ => rfl) ?_
      exact ih (k + 1) (c + 1) _ (by omega) (by omega) (by rw [cnt_t c2, c3]) (gs_o rfl l0 rfl) (gs_o rfl l1 rfl) (gs_o rfl l2 rfl) (gs_o rfl l3 rfl) gs_n hq
theorem m_ob {H : List AE} (hlen : Nat.ble 204 H.length = true) {sm pm pn fm te gu p0 p2 nu sg fa pl td : Int32} {sz lim a fr kd : Nat} {wd : Int64} {pr : List Value} {nw : List Int32} {P Dn bo d : Nat} {ri lf ha fi : List Int32} (hP : P ≤ 7) (hd : d < 8) (h44 : nw[44]? = some (Int32.ofNat bo)) (hbo : bo < 256) (lr : ri.length = 7) (ll : lf.length = 7) (lh : ha.length = 8) (vp : ∀ i, i < P → ri[i]? = nw[5 + i]? ∧ lf[i]? = nw[12 + i]?) (vd : ha[d]? = nw[20 + d]?) {b : Nat} (hb : b < 2 ^ (3 * P)) (hf : ∀ x, b.testBit x = true → fi[cnt b x]? = some (Int32.ofNat x)) (h0 : H[180]? = some (mcl p0 p2 sz lim a fr kd nu sg fa pl wd td (pof (.int sm :: .ref 192 :: .ref 193 :: .ref 194 :: .int pm :: .int pn :: .ref 195 :: .ref 196 :: .int fm :: .int te :: .int gu :: pr)))) (h1 : H[182]? = some (ia nw)) (h2 : H[195]? = some (ia fi)) : FR 4 235 [.ref 180, .int (Int32.ofNat d), .int (Int32.ofNat (cnt b 21))] H (some (.int (Int32.ofNat ((fun d => dif (cnt (b &&& cbL (KK' bo d ri lf ha) (3 * P) 0 0) 21) (cnt b 21)) d))), ov H []) := by
  have c1 := cnt_le (b := b) 21
  have c2 := cnt_le (b := b &&& (cbL (KK' bo d ri lf ha) (3 * P) 0 0)) 21
  have cs := m_size (H := ov H [(180, mcl p0 p2 sz lim a fr kd nu sg fa pl wd td (pof (.int sm :: .ref 192 :: .ref 193 :: .ref 194 :: .int pm :: .int pn :: .ref 195 :: .ref 196 :: .int fm :: .int te :: .int gu :: pr))), (182, ia nw), (195, ia fi)]) (Int32.ofNat 2 * Int32.ofNat (cnt (b &&& (cbL (KK' bo d ri lf ha) (3 * P) 0 0)) 21) - Int32.ofNat (cnt b 21))
  rw [ab_2 _ (by omega) _ (by omega)] at cs
  refine FR_ov (l := [(180, mcl p0 p2 sz lim a fr kd nu sg fa pl wd td (pof (.int sm :: .ref 192 :: .ref 193 :: .ref 194 :: .int pm :: .int pn :: .ref 195 :: .ref 196 :: .int fm :: .int te :: .int gu :: pr))), (182, ia nw), (195, ia fi)]) (l2 := [(180, mcl p0 p2 sz lim a fr kd nu sg fa pl wd td (pof (.int sm :: .ref 192 :: .ref 193 :: .ref 194 :: .int pm :: .int pn :: .ref 195 :: .ref 196 :: .int fm :: .int te :: .int gu :: pr))), (182, ia nw), (195, ia fi)]) (ov_id h0 (ov_id h1 (ov_c1 h2))) rfl (ov_id h0 (ov_id h1 (ov_c1 h2))) ?_
  refine rt_ico rfl ki_0 ?_
  refine RT_step (pc2 := 2) rfl (fun _ _ => rfl) ?_
  refine rt_ico rfl ki_0 ?_
  refine RT_step (pc2 := 5) rfl (fun _ _ => rfl) ?_
  refine m_obL (Dn := Dn) (dd := 0) hlen hP hd h44 hbo lr ll lh vp vd hb hf (cnt b 21) 0 0 _ (by omega) (by omega) rfl rfl rfl rfl rfl rfl (fun L2 l2 l3 => ?_)
  refine rt_ico rfl ki_2 ?_
  refine rt_ild rfl l3 ?_
  refine ba_imul rfl ?_
  refine rt_ild rfl l2 ?_
  refine ba_isub rfl ?_
  refine ow_is1 (l2 := [(180, mcl p0 p2 sz lim a fr kd nu sg fa pl wd td (pof (.int sm :: .ref 192 :: .ref 193 :: .ref 194 :: .int pm :: .int pn :: .ref 195 :: .ref 196 :: .int fm :: .int te :: .int gu :: pr))), (182, ia nw), (195, ia fi)]) rfl rfl rfl rfl rfl (cs.up (by decide)) rfl ?_
  exact ow_irt rfl rfl rfl
theorem m_teL {H : List AE} (hlen : Nat.ble 204 H.length = true) {sm pm pn fm te gu p0 nu sg fa pl td : Int32} {n sz lim a fr kd : Nat} {wd : Int64} {pr : List Value} {nw ri lf ha : List Int32} {P Dn bo : Nat} {ts : List Int32} {B : Nat → Nat} (hM : MY ts B) (hb : ∀ i, B i < 256) (hP : P ≤ 7) (hD : Dn ≤ 8) (v0 : nw[0]? = some (Int32.ofNat P)) (v1 : nw[1]? = some (Int32.ofNat Dn)) (h44 : nw[44]? = some (Int32.ofNat bo)) (hbo : bo < 256) (lr : ri.length = 7) (ll : lf.length = 7) (lh : ha.length = 8) (vp : ∀ i, i < P → ri[i]? = nw[5 + i]? ∧ lf[i]? = nw[12 + i]?) (vd : ∀ d, d < Dn → ha[d]? = nw[20 + d]?) (hD1 : 1 ≤ Dn) {b : Nat} (hb : b < 2 ^ (3 * P)) {fi ty : List Int32} (hf : ∀ x, b.testBit x = true → fi[cnt b x]? = some (Int32.ofNat x)) {dd : Nat} {q : ev_R} : ∀ (r d t : Nat) (L : List (Nat × Value)), d + r = Dn → t < d → ev_g L 0 = some (.ref 180) → ev_g L 2 = some (.int (Int32.ofNat (cnt b 21))) → ev_g L 3 = some (.int (Int32.ofNat d)) → (∀ L2, ev_g L2 2 = some (.int (Int32.ofNat (cnt b 21))) → RT MM (dd + 4) 202 255 L2 [] (ov H [(180, mcl (Int32.ofNat 0) (Int32.ofNat 0) sz lim a fr kd nu sg fa pl wd td (pof (.int sm :: .ref 192 :: .ref 193 :: .ref 194 :: .int pm :: .int pn :: .ref 195 :: .ref 196 :: .int (Int32.ofNat (cnt b 21)) :: .int (Int32.ofNat (mnF (fun d => dif (cnt (b &&& cbL (KK' bo d ri lf ha) (3 * P) 0 0) 21) (cnt b 21)) r d t)) :: .int gu :: pr))), (181, mtl ts), (182, ia nw), (195, ia fi), (196, ia ty)]) q) → RT MM (dd + 4) 202 216 L [] (ov H [(180, mcl (Int32.ofNat 0) (Int32.ofNat 0) sz lim a fr kd nu sg fa pl wd td (pof (.int sm :: .ref 192 :: .ref 193 :: .ref 194 :: .int pm :: .int pn :: .ref 195 :: .ref 196 :: .int (Int32.ofNat (cnt b 21)) :: .int (Int32.ofNat t) :: .int gu :: pr))), (181, mtl ts), (182, ia nw), (195, ia fi), (196, ia ty)]) q := by
  intro r
  induction r with
  | zero =>
    intro d t L hd ht l0 l2 l3 hq
    have hi : d = Dn := by omega
    subst hi
    refine rt_ild rfl l3 ?_
    refine rt_ald rfl l0 ?_
    refine ow_gf rfl rfl rfl hlen rfl ?_
    refine rt_ico rfl ki_1 ?_
    refine ow_ialN rfl rfl v1 (by omega) hlen rfl ?_
    refine biT_ge rfl (n_le (Nat.le_refl _) (by omega)) ?_
    exact hq _ l2
  | succ r ih =>
    intro d t L hd ht l0 l2 l3 hq
    · have o1 := (m_ob (H := ov H [(180, mcl (Int32.ofNat 0) (Int32.ofNat 0) sz lim a fr kd nu sg fa pl wd td (pof (.int sm :: .ref 192 :: .ref 193 :: .ref 194 :: .int pm :: .int pn :: .ref 195 :: .ref 196 :: .int (Int32.ofNat (cnt b 21)) :: .int (Int32.ofNat t) :: .int gu :: pr))), (181, mtl ts), (182, ia nw), (195, ia fi), (196, ia ty)]) (d := d) (Dn := Dn) (ov_hl hlen) hP (by omega) h44 hbo lr ll lh vp (vd _ (by omega)) hb hf (ov_at rfl (ov_lt hlen (by decide))) (ov_at rfl (ov_lt hlen (by decide))) (ov_at rfl (ov_lt hlen (by decide))))
      have o2 := (m_ob (H := ov H [(180, mcl (Int32.ofNat 0) (Int32.ofNat 0) sz lim a fr kd nu sg fa pl wd td (pof (.int sm :: .ref 192 :: .ref 193 :: .ref 194 :: .int pm :: .int pn :: .ref 195 :: .ref 196 :: .int (Int32.ofNat (cnt b 21)) :: .int (Int32.ofNat t) :: .int gu :: pr))), (181, mtl ts), (182, ia nw), (195, ia fi), (196, ia ty)]) (d := t) (Dn := Dn) (ov_hl hlen) hP (by omega) h44 hbo lr ll lh vp (vd _ (by omega)) hb hf (ov_at rfl (ov_lt hlen (by decide))) (ov_at rfl (ov_lt hlen (by decide))) (ov_at rfl (ov_lt hlen (by decide))))
      have k1 : (fun d => dif (cnt (b &&& cbL (KK' bo d ri lf ha) (3 * P) 0 0) 21) (cnt b 21)) d < 100 := dif_lt _ (by have := cnt_le (b := b &&& (cbL (KK' bo d ri lf ha) (3 * P) 0 0)) 21; omega) _ (by have := cnt_le (b := b) 21; omega)
      have k2 : (fun d => dif (cnt (b &&& cbL (KK' bo d ri lf ha) (3 * P) 0 0) 21) (cnt b 21)) t < 100 := dif_lt _ (by have := cnt_le (b := b &&& (cbL (KK' bo t ri lf ha) (3 * P) 0 0)) 21; omega) _ (by have := cnt_le (b := b) 21; omega)
      by_cases c : (fun d => dif (cnt (b &&& cbL (KK' bo d ri lf ha) (3 * P) 0 0) 21) (cnt b 21)) d < (fun d => dif (cnt (b &&& cbL (KK' bo d ri lf ha) (3 * P) 0 0) 21) (cnt b 21)) t
      · rw [show mnF (fun d => dif (cnt (b &&& cbL (KK' bo d ri lf ha) (3 * P) 0 0) 21) (cnt b 21)) (r + 1) d t = mnF (fun d => dif (cnt (b &&& cbL (KK' bo d ri lf ha) (3 * P) 0 0) 21) (cnt b 21)) r (d + 1) d from congrArg (mnF (fun d => dif (cnt (b &&& cbL (KK' bo d ri lf ha) (3 * P) 0 0) 21) (cnt b 21)) r (d + 1)) (if_pos c)] at hq
        refine rt_ild rfl l3 ?_
        refine rt_ald rfl l0 ?_
        refine ow_gf rfl rfl rfl hlen rfl ?_
        refine rt_ico rfl ki_1 ?_
        refine ow_ialN rfl rfl v1 (by omega) hlen rfl ?_
        refine biF_ge rfl (n_nle (by omega) (by omega)) ?_
        refine rt_ald rfl l0 ?_
        refine rt_ild rfl l3 ?_
        refine rt_ild rfl l2 ?_
        refine ow_iv1 (l2 := [(180, mcl (Int32.ofNat 0) (Int32.ofNat 0) sz lim a fr kd nu sg fa pl wd td (pof (.int sm :: .ref 192 :: .ref 193 :: .ref 194 :: .int pm :: .int pn :: .ref 195 :: .ref 196 :: .int (Int32.ofNat (cnt b 21)) :: .int (Int32.ofNat t) :: .int gu :: pr))), (181, mtl ts), (182, ia nw), (195, ia fi), (196, ia ty)]) rfl rfl rfl rfl hlen rfl rfl rfl (o1.up (by omega)) rfl ?_
        refine rt_ald rfl l0 ?_
        refine rt_ald rfl l0 ?_
        refine ow_gf rfl rfl rfl hlen rfl ?_
        refine rt_ild rfl l2 ?_
        refine ow_iv1 (l2 := [(180, mcl (Int32.ofNat 0) (Int32.ofNat 0) sz lim a fr kd nu sg fa pl wd td (pof (.int sm :: .ref 192 :: .ref 193 :: .ref 194 :: .int pm :: .int pn :: .ref 195 :: .ref 196 :: .int (Int32.ofNat (cnt b 21)) :: .int (Int32.ofNat t) :: .int gu :: pr))), (181, mtl ts), (182, ia nw), (195, ia fi), (196, ia ty)]) rfl rfl rfl rfl hlen rfl rfl rfl (o2.up (by omega)) rfl ?_
        refine biF_ge rfl (n_nle c (Nat.lt_trans k2 (by decide))) ?_
        refine rt_ald rfl l0 ?_
        refine rt_ild rfl l3 ?_
        refine ow_pf rfl rfl rfl rfl rfl hlen rfl rfl ?_
        refine rt_inc rfl l3 (by decide +kernel) ?_
        rw [in_1]
        refine RT_step (pc2 := 216) rfl (fun _ _ => rfl) ?_
        exact ih (d + 1) d _ (by omega) (by omega) (gs_o rfl l0 rfl) (gs_o rfl l2 rfl) gs_n hq
      · rw [show mnF (fun d => dif (cnt (b &&& cbL (KK' bo d ri lf ha) (3 * P) 0 0) 21) (cnt b 21)) (r + 1) d t = mnF (fun d => dif (cnt (b &&& cbL (KK' bo d ri lf ha) (3 * P) 0 0) 21) (cnt b 21)) r (d + 1) t from congrArg (mnF (fun d => dif (cnt (b &&& cbL (KK' bo d ri lf ha) (3 * P) 0 0) 21) (cnt b 21)) r (d + 1)) (if_neg c)] at hq
        refine rt_ild rfl l3 ?_
        refine rt_ald rfl l0 ?_
        refine ow_gf rfl rfl rfl hlen rfl ?_
        refine rt_ico rfl ki_1 ?_
        refine ow_ialN rfl rfl v1 (by omega) hlen rfl ?_
        refine biF_ge rfl (n_nle (by omega) (by omega)) ?_
        refine rt_ald rfl l0 ?_
        refine rt_ild rfl l3 ?_
        refine rt_ild rfl l2 ?_
        refine ow_iv1 (l2 := [(180, mcl (Int32.ofNat 0) (Int32.ofNat 0) sz lim a fr kd nu sg fa pl wd td (pof (.int sm :: .ref 192 :: .ref 193 :: .ref 194 :: .int pm :: .int pn :: .ref 195 :: .ref 196 :: .int (Int32.ofNat (cnt b 21)) :: .int (Int32.ofNat t) :: .int gu :: pr))), (181, mtl ts), (182, ia nw), (195, ia fi), (196, ia ty)]) rfl rfl rfl rfl hlen rfl rfl rfl (o1.up (by omega)) rfl ?_
        refine rt_ald rfl l0 ?_
        refine rt_ald rfl l0 ?_
        refine ow_gf rfl rfl rfl hlen rfl ?_
        refine rt_ild rfl l2 ?_
        refine ow_iv1 (l2 := [(180, mcl (Int32.ofNat 0) (Int32.ofNat 0) sz lim a fr kd nu sg fa pl wd td (pof (.int sm :: .ref 192 :: .ref 193 :: .ref 194 :: .int pm :: .int pn :: .ref 195 :: .ref 196 :: .int (Int32.ofNat (cnt b 21)) :: .int (Int32.ofNat t) :: .int gu :: pr))), (181, mtl ts), (182, ia nw), (195, ia fi), (196, ia ty)]) rfl rfl rfl rfl hlen rfl rfl rfl (o2.up (by omega)) rfl ?_
        refine biT_ge rfl (n_le (Nat.le_of_not_lt c) (by omega)) ?_
        refine rt_inc rfl l3 (by decide +kernel) ?_
        rw [in_1]
        refine RT_step (pc2 := 216) rfl (fun _ _ => rfl) ?_
        exact ih (d + 1) t _ (by omega) (by omega) (gs_o rfl l0 rfl) (gs_o rfl l2 rfl) gs_n hq
theorem ov_skip {hp : List AE} {a : Nat} {c : AE} {l r : List (Nat × AE)} (h : hp[a]? = some c) (hn : olk l a = none) (e : ov hp l = ov hp r) : ov hp ((a, c) :: l) = ov hp r := by
  show (ov hp l).set a c = _
  rw [set_same ((ov_no hn).trans h), e]
theorem ov_take {hp : List AE} {a : Nat} {c : AE} {l r : List (Nat × AE)} (e : ov hp l = ov hp r) : ov hp ((a, c) :: l) = ov hp ((a, c) :: r) := congrArg (fun z : List AE => z.set a c) e
theorem m_fi0 {H : List AE} (hlen : Nat.ble 204 H.length = true) {sm pm pn fm te gu p0 nu sg fa pl td : Int32} {n sz lim a fr kd : Nat} {wd : Int64} {pr : List Value} {nw ri lf ha : List Int32} {P Dn bo : Nat} {ts : List Int32} {B : Nat → Nat} (hM : MY ts B) (hb : ∀ i, B i < 256) (hP : P ≤ 7) (hD : Dn ≤ 8) (v0 : nw[0]? = some (Int32.ofNat P)) (v1 : nw[1]? = some (Int32.ofNat Dn)) (h44 : nw[44]? = some (Int32.ofNat bo)) (hbo : bo < 256) (lr : ri.length = 7) (ll : lf.length = 7) (lh : ha.length = 8) (vp : ∀ i, i < P → ri[i]? = nw[5 + i]? ∧ lf[i]? = nw[12 + i]?) (vd : ∀ d, d < Dn → ha[d]? = nw[20 + d]?) {fi ty : List Int32} (h0 : H[180]? = some (mcl p0 (Int32.ofNat n) sz lim a fr kd nu sg fa pl wd td (pof (.int sm :: .ref 192 :: .ref 193 :: .ref 194 :: .int pm :: .int pn :: .ref 195 :: .ref 196 :: .int fm :: .int te :: .int gu :: pr)))) (h1 : H[181]? = some (mtl ts)) (h2 : H[182]? = some (ia nw)) (h3 : H[195]? = some (ia fi)) (h4 : H[196]? = some (ia ty)) (lf9 : fi.length = 21) (lt9 : ty.length = 21) (hn : n ≤ 940) (hg : ¬ gdF B Dn n) : FR 6 202 [.ref 180] H (some (.int (-1 : Int32)), ov H [(180, mcl (Int32.ofNat 0) (Int32.ofNat 0) sz lim a fr kd nu sg fa pl wd td (pof (.int sm :: .ref 192 :: .ref 193 :: .ref 194 :: .int pm :: .int pn :: .ref 195 :: .ref 196 :: .int fm :: .int te :: .int gu :: pr)))]) := by
  refine FR_ov (l := [(180, mcl p0 (Int32.ofNat n) sz lim a fr kd nu sg fa pl wd td (pof (.int sm :: .ref 192 :: .ref 193 :: .ref 194 :: .int pm :: .int pn :: .ref 195 :: .ref 196 :: .int fm :: .int te :: .int gu :: pr))), (181, mtl ts), (182, ia nw), (195, ia fi), (196, ia ty)]) (l2 := [(180, mcl (Int32.ofNat 0) (Int32.ofNat 0) sz lim a fr kd nu sg fa pl wd td (pof (.int sm :: .ref 192 :: .ref 193 :: .ref 194 :: .int pm :: .int pn :: .ref 195 :: .ref 196 :: .int fm :: .int te :: .int gu :: pr))), (181, mtl ts), (182, ia nw), (195, ia fi), (196, ia ty)]) (ov_id h0 (ov_id h1 (ov_id h2 (ov_id h3 (ov_c1 h4))))) rfl (congrArg (fun z : List AE => z.set 180 _) (ov_id h1 (ov_id h2 (ov_id h3 (ov_c1 h4))))) ?_
  by_cases c1 : n % 2 = 0
  · have ci : ∀ v, (1 ≤ n / 2 ∧ n / 2 ≤ 6) → v = Int32.ofNat 1 → FR 1 218 [.int (Int32.ofNat (n / 2)), .int (Int32.ofNat 1), .int (Int32.ofNat 6)] (ov H [(180, mcl (Int32.ofNat 0) (Int32.ofNat 0) sz lim a fr kd nu sg fa pl wd td (pof (.int sm :: .ref 192 :: .ref 193 :: .ref 194 :: .int pm :: .int pn :: .ref 195 :: .ref 196 :: .int fm :: .int te :: .int gu :: pr))), (181, mtl ts), (182, ia nw), (195, ia fi), (196, ia ty)]) (some (.int v), ov (ov H [(180, mcl (Int32.ofNat 0) (Int32.ofNat 0) sz lim a fr kd nu sg fa pl wd td (pof (.int sm :: .ref 192 :: .ref 193 :: .ref 194 :: .int pm :: .int pn :: .ref 195 :: .ref 196 :: .int fm :: .int te :: .int gu :: pr))), (181, mtl ts), (182, ia nw), (195, ia fi), (196, ia ty)]) []) := fun v h e => by
      subst e
      exact m_isIn1 (n_le h.1 (by omega)) (n_le h.2 (by decide))
    by_cases c2 : 1 ≤ n / 2 ∧ n / 2 ≤ 6
    · obtain ⟨m, hm⟩ : ∃ m, n = 2 * m := ⟨n / 2, by omega⟩
      have ci2 := ci _ c2 rfl
      subst hm
      have hex : ∃ i, 0 ≤ i ∧ i < m ∧ ¬ (B (2 * i) < Dn ∧ B (2 * i + 1) ≤ 1) := Classical.byContradiction (fun e => hg ⟨m, rfl, by omega, by omega, fun i hi => Classical.byContradiction (fun k => e ⟨i, Nat.zero_le i, hi, k⟩)⟩)
      refine RT_step (pc2 := 1) rfl (fun _ _ => rfl) ?_
      refine rt_ico rfl ki_0 ?_
      refine ow_pf rfl rfl rfl rfl rfl hlen rfl rfl ?_
      refine RT_step (pc2 := 6) rfl (fun _ _ => rfl) ?_
      refine ow_iv1 (l2 := [(180, mcl (Int32.ofNat 0) (Int32.ofNat 0) sz lim a fr kd nu sg fa pl wd td (pof (.int sm :: .ref 192 :: .ref 193 :: .ref 194 :: .int pm :: .int pn :: .ref 195 :: .ref 196 :: .int fm :: .int te :: .int gu :: pr))), (181, mtl ts), (182, ia nw), (195, ia fi), (196, ia ty)]) rfl rfl rfl rfl hlen rfl rfl rfl ((m_take (p0 := (Int32.ofNat 0)) (n := 2 * m) (ov_hl hlen) (ov_at rfl (ov_lt hlen (by decide)))).up (by decide)) rfl ?_
      refine RT_step (pc2 := 10) rfl (fun _ _ => rfl) ?_
      refine RT_step (pc2 := 11) rfl (fun _ _ => rfl) ?_
      refine rt_ico rfl ki_2 ?_
      refine rt_rem rfl (by decide) (rm2 (2 * m) (by omega)) ?_
      refine bcT_ne rfl (n_eq (b := 0) c1) ?_
      refine RT_step (pc2 := 17) rfl (fun _ _ => rfl) ?_
      refine rt_ico rfl ki_2 ?_
      refine rt_div rfl (by decide) (dv2 (2 * m) (by omega)) ?_
      refine rt_ico rfl ki_1 ?_
      refine rt_bip rfl k8_6 ?_
      refine ow_is1 (l2 := [(180, mcl (Int32.ofNat 0) (Int32.ofNat 0) sz lim a fr kd nu sg fa pl wd td (pof (.int sm :: .ref 192 :: .ref 193 :: .ref 194 :: .int pm :: .int pn :: .ref 195 :: .ref 196 :: .int fm :: .int te :: .int gu :: pr))), (181, mtl ts), (182, ia nw), (195, ia fi), (196, ia ty)]) rfl rfl rfl rfl rfl (ci2.up (by decide)) rfl ?_
      refine bcF_ne rfl (by decide) ?_
      refine rt_ico rfl ki_0 ?_
      refine RT_step (pc2 := 32) rfl (fun _ _ => rfl) ?_
      exact m_ck0 (n := 0) (p0 := 0) (dd := 1) hlen hM hb hP hD v0 v1 h44 hbo lr ll lh vp vd (m := m) (by omega) m 0 _ (by omega) hex rfl rfl rfl
    · refine RT_step (pc2 := 1) rfl (fun _ _ => rfl) ?_
      refine rt_ico rfl ki_0 ?_
      refine ow_pf rfl rfl rfl rfl rfl hlen rfl rfl ?_
      refine RT_step (pc2 := 6) rfl (fun _ _ => rfl) ?_
      refine ow_iv1 (l2 := [(180, mcl (Int32.ofNat 0) (Int32.ofNat 0) sz lim a fr kd nu sg fa pl wd td (pof (.int sm :: .ref 192 :: .ref 193 :: .ref 194 :: .int pm :: .int pn :: .ref 195 :: .ref 196 :: .int fm :: .int te :: .int gu :: pr))), (181, mtl ts), (182, ia nw), (195, ia fi), (196, ia ty)]) rfl rfl rfl rfl hlen rfl rfl rfl ((m_take (p0 := (Int32.ofNat 0)) (n := n) (ov_hl hlen) (ov_at rfl (ov_lt hlen (by decide)))).up (by decide)) rfl ?_
      refine RT_step (pc2 := 10) rfl (fun _ _ => rfl) ?_
      refine RT_step (pc2 := 11) rfl (fun _ _ => rfl) ?_
      refine rt_ico rfl ki_2 ?_
      refine rt_rem rfl (by decide) (rm2 n (by omega)) ?_
      refine bcT_ne rfl (n_eq (b := 0) c1) ?_
      refine RT_step (pc2 := 17) rfl (fun _ _ => rfl) ?_
      refine rt_ico rfl ki_2 ?_
      refine rt_div rfl (by decide) (dv2 n (by omega)) ?_
      refine rt_ico rfl ki_1 ?_
      refine rt_bip rfl k8_6 ?_
      refine ow_is1 (l2 := [(180, mcl (Int32.ofNat 0) (Int32.ofNat 0) sz lim a fr kd nu sg fa pl wd td (pof (.int sm :: .ref 192 :: .ref 193 :: .ref 194 :: .int pm :: .int pn :: .ref 195 :: .ref 196 :: .int fm :: .int te :: .int gu :: pr))), (181, mtl ts), (182, ia nw), (195, ia fi), (196, ia ty)]) rfl rfl rfl rfl rfl ((m_isIn0 (H := ov H [(180, mcl (Int32.ofNat 0) (Int32.ofNat 0) sz lim a fr kd nu sg fa pl wd td (pof (.int sm :: .ref 192 :: .ref 193 :: .ref 194 :: .int pm :: .int pn :: .ref 195 :: .ref 196 :: .int fm :: .int te :: .int gu :: pr))), (181, mtl ts), (182, ia nw), (195, ia fi), (196, ia ty)]) (Classical.byContradiction (fun e => c2 ⟨Nat.le_of_not_lt (fun k => e (Or.inl (n_lt k (by decide)))), Nat.le_of_not_lt (fun k => e (Or.inr (n_lt k (by omega))))⟩))).up (by decide)) rfl ?_
      refine bcT_ne rfl rfl ?_
      refine rt_ico rfl ki_m1 ?_
      exact ow_irt rfl rfl rfl
  · refine RT_step (pc2 := 1) rfl (fun _ _ => rfl) ?_
    refine rt_ico rfl ki_0 ?_
    refine ow_pf rfl rfl rfl rfl rfl hlen rfl rfl ?_
    refine RT_step (pc2 := 6) rfl (fun _ _ => rfl) ?_
    refine ow_iv1 (l2 := [(180, mcl (Int32.ofNat 0) (Int32.ofNat 0) sz lim a fr kd nu sg fa pl wd td (pof (.int sm :: .ref 192 :: .ref 193 :: .ref 194 :: .int pm :: .int pn :: .ref 195 :: .ref 196 :: .int fm :: .int te :: .int gu :: pr))), (181, mtl ts), (182, ia nw), (195, ia fi), (196, ia ty)]) rfl rfl rfl rfl hlen rfl rfl rfl ((m_take (p0 := (Int32.ofNat 0)) (n := n) (ov_hl hlen) (ov_at rfl (ov_lt hlen (by decide)))).up (by decide)) rfl ?_
    refine RT_step (pc2 := 10) rfl (fun _ _ => rfl) ?_
    refine RT_step (pc2 := 11) rfl (fun _ _ => rfl) ?_
    refine rt_ico rfl ki_2 ?_
    refine rt_rem rfl (by decide) (rm2 n (by omega)) ?_
    refine bcF_ne rfl (n_ne (b := 0) c1 (by omega) (by decide)) ?_
    refine rt_ico rfl ki_m1 ?_
    exact ow_irt rfl rfl rfl
theorem fi_rel {b P : Nat} {fi ty : List Int32} (hP : P ≤ 7) (hb2 : b < 2 ^ (3 * P)) (lf9 : fi.length = 21) (lt9 : ty.length = 21) : ∀ x, b.testBit x = true → (cpl (tyL b (3 * P) 0 ty) fi (cnt b (3 * P)) 0)[cnt b x]? = some (Int32.ofNat x) := fun x hx => by
  obtain ⟨t1, t2⟩ := tyL_ok (b := b) (3 * P) 0 ty (by omega) lt9 (fun x hx => absurd hx (Nat.not_lt_zero x))
  have c9 := cnt_le (b := b) (3 * P)
  have hx3 := bit_lt hb2 hx
  have hlt : cnt b x < cnt b (3 * P) := by
    have := cnt_mono (b := b) (i := x + 1) (k := 3 * P - (x + 1))
    rw [show x + 1 + (3 * P - (x + 1)) = 3 * P by omega, cnt_t hx] at this
    omega
  rw [cpl_at (Nat.zero_le _) (by omega) (by omega) (by omega)]
  exact t2 x (by omega) hx
theorem m_fi1 {H : List AE} (hlen : Nat.ble 204 H.length = true) {sm pm pn fm te gu p0 nu sg fa pl td : Int32} {n sz lim a fr kd : Nat} {wd : Int64} {pr : List Value} {nw ri lf ha : List Int32} {P Dn bo : Nat} {ts : List Int32} {B : Nat → Nat} (hM : MY ts B) (hb : ∀ i, B i < 256) (hP : P ≤ 7) (hD : Dn ≤ 8) (v0 : nw[0]? = some (Int32.ofNat P)) (v1 : nw[1]? = some (Int32.ofNat Dn)) (h44 : nw[44]? = some (Int32.ofNat bo)) (hbo : bo < 256) (lr : ri.length = 7) (ll : lf.length = 7) (lh : ha.length = 8) (vp : ∀ i, i < P → ri[i]? = nw[5 + i]? ∧ lf[i]? = nw[12 + i]?) (vd : ∀ d, d < Dn → ha[d]? = nw[20 + d]?) {fi ty : List Int32} (h0 : H[180]? = some (mcl p0 (Int32.ofNat n) sz lim a fr kd nu sg fa pl wd td (pof (.int sm :: .ref 192 :: .ref 193 :: .ref 194 :: .int pm :: .int pn :: .ref 195 :: .ref 196 :: .int fm :: .int te :: .int gu :: pr)))) (h1 : H[181]? = some (mtl ts)) (h2 : H[182]? = some (ia nw)) (h3 : H[195]? = some (ia fi)) (h4 : H[196]? = some (ia ty)) (lf9 : fi.length = 21) (lt9 : ty.length = 21) {m : Nat} (hn : n = 2 * m) (hm1 : 1 ≤ m) (hm : m ≤ 6) (hg : ∀ i, i < m → B (2 * i) < Dn ∧ B (2 * i + 1) ≤ 1) {b : Nat} (hb2 : b < 2 ^ (3 * P)) (hbt : ∀ c, c < 3 * P → b.testBit c = soL (fun d => KK' bo d ri lf ha c) B m 0 true) (hz : b = 0) : FR 6 202 [.ref 180] H (some (.int (Int32.ofNat (cnt b 21))), ov H [(180, mcl (Int32.ofNat 0) (Int32.ofNat 0) sz lim a fr kd nu sg fa pl wd td (pof (.int sm :: .ref 192 :: .ref 193 :: .ref 194 :: .int pm :: .int pn :: .ref 195 :: .ref 196 :: .int fm :: .int te :: .int gu :: pr))), (196, ia (tyL b (3 * P) 0 ty))]) := by
  have c21 : cnt b 21 = cnt b (3 * P) := by
    have := cnt_top (k := 21 - 3 * P) hb2
    rw [show 3 * P + (21 - 3 * P) = 21 by omega] at this
    exact this
  have c9 := cnt_le (b := b) (3 * P)
  have c0 := cnt_0 hb2
  obtain ⟨t1, t2⟩ := tyL_ok (b := b) (3 * P) 0 ty (by omega) lt9 (fun x hx => absurd hx (Nat.not_lt_zero x))
  refine FR_ov (l := [(180, mcl p0 (Int32.ofNat n) sz lim a fr kd nu sg fa pl wd td (pof (.int sm :: .ref 192 :: .ref 193 :: .ref 194 :: .int pm :: .int pn :: .ref 195 :: .ref 196 :: .int fm :: .int te :: .int gu :: pr))), (181, mtl ts), (182, ia nw), (195, ia fi), (196, ia ty)]) (l2 := [(180, mcl (Int32.ofNat 0) (Int32.ofNat 0) sz lim a fr kd nu sg fa pl wd td (pof (.int sm :: .ref 192 :: .ref 193 :: .ref 194 :: .int pm :: .int pn :: .ref 195 :: .ref 196 :: .int fm :: .int te :: .int gu :: pr))), (181, mtl ts), (182, ia nw), (195, ia fi), (196, ia (tyL b (3 * P) 0 ty))]) (ov_id h0 (ov_id h1 (ov_id h2 (ov_id h3 (ov_c1 h4))))) rfl (ov_take (ov_skip h1 rfl (ov_skip h2 rfl (ov_skip h3 rfl rfl)))) ?_
  subst hn
  have ci2 : FR 1 218 [.int (Int32.ofNat (2 * m / 2)), .int (Int32.ofNat 1), .int (Int32.ofNat 6)] (ov H [(180, mcl (Int32.ofNat 0) (Int32.ofNat 0) sz lim a fr kd nu sg fa pl wd td (pof (.int sm :: .ref 192 :: .ref 193 :: .ref 194 :: .int pm :: .int pn :: .ref 195 :: .ref 196 :: .int fm :: .int te :: .int gu :: pr))), (181, mtl ts), (182, ia nw), (195, ia fi), (196, ia ty)]) (some (.int (Int32.ofNat 1)), ov (ov H [(180, mcl (Int32.ofNat 0) (Int32.ofNat 0) sz lim a fr kd nu sg fa pl wd td (pof (.int sm :: .ref 192 :: .ref 193 :: .ref 194 :: .int pm :: .int pn :: .ref 195 :: .ref 196 :: .int fm :: .int te :: .int gu :: pr))), (181, mtl ts), (182, ia nw), (195, ia fi), (196, ia ty)]) []) := m_isIn1 (n_le (by omega) (by omega)) (n_le (by omega) (by decide))
  refine RT_step (pc2 := 1) rfl (fun _ _ => rfl) ?_
  refine rt_ico rfl ki_0 ?_
  refine ow_pf rfl rfl rfl rfl rfl hlen rfl rfl ?_
  refine RT_step (pc2 := 6) rfl (fun _ _ => rfl) ?_
  refine ow_iv1 (l2 := [(180, mcl (Int32.ofNat 0) (Int32.ofNat 0) sz lim a fr kd nu sg fa pl wd td (pof (.int sm :: .ref 192 :: .ref 193 :: .ref 194 :: .int pm :: .int pn :: .ref 195 :: .ref 196 :: .int fm :: .int te :: .int gu :: pr))), (181, mtl ts), (182, ia nw), (195, ia fi), (196, ia ty)]) rfl rfl rfl rfl hlen rfl rfl rfl ((m_take (p0 := (Int32.ofNat 0)) (n := 2 * m) (ov_hl hlen) (ov_at rfl (ov_lt hlen (by decide)))).up (by decide)) rfl ?_
  refine RT_step (pc2 := 10) rfl (fun _ _ => rfl) ?_
  refine RT_step (pc2 := 11) rfl (fun _ _ => rfl) ?_
  refine rt_ico rfl ki_2 ?_
  refine rt_rem rfl (by decide) (rm2 (2 * m) (by omega)) ?_
  refine bcT_ne rfl (n_eq (b := 0) (by omega)) ?_
  refine RT_step (pc2 := 17) rfl (fun _ _ => rfl) ?_
  refine rt_ico rfl ki_2 ?_
  refine rt_div rfl (by decide) (dv2 (2 * m) (by omega)) ?_
  refine rt_ico rfl ki_1 ?_
  refine rt_bip rfl k8_6 ?_
  refine ow_is1 (l2 := [(180, mcl (Int32.ofNat 0) (Int32.ofNat 0) sz lim a fr kd nu sg fa pl wd td (pof (.int sm :: .ref 192 :: .ref 193 :: .ref 194 :: .int pm :: .int pn :: .ref 195 :: .ref 196 :: .int fm :: .int te :: .int gu :: pr))), (181, mtl ts), (182, ia nw), (195, ia fi), (196, ia ty)]) rfl rfl rfl rfl rfl (ci2.up (by decide)) rfl ?_
  refine bcF_ne rfl (by decide) ?_
  refine rt_ico rfl ki_0 ?_
  refine RT_step (pc2 := 32) rfl (fun _ _ => rfl) ?_
  refine m_ck1 (n := 0) (p0 := 0) (dd := 1) hlen hM hb hP hD v0 v1 h44 hbo lr ll lh vp vd (m := m) hm hg m 0 _ (by omega) rfl rfl rfl (fun L2 l0 l1 => ?_)
  refine rt_ico rfl ki_0 ?_
  refine rt_ist rfl (by decide +kernel) ?_
  refine rt_ico rfl ki_0 ?_
  refine rt_ist rfl (by decide +kernel) ?_
  refine m_ha (n := 0) (p0 := 0) (dd := 1) hlen hM hb hP hD v0 v1 h44 hbo lr ll lh vp vd hm hg hbt (3 * P) 0 ty _ (by omega) lt9 (gs_o rfl (gs_o rfl l0 rfl) rfl) (gs_o rfl (gs_o rfl l1 rfl) rfl) (gs_o rfl gs_n rfl) gs_n (fun L3 p0 p2 => ?_)
  have hz9 : cnt b (3 * P) = 0 := c0.mpr hz
  rw [c21, hz9]
  refine rt_ild rfl p2 ?_
  refine bcT_ne rfl (n_eq (b := 0) hz9) ?_
  refine rt_ico rfl ki_0 ?_
  exact ow_irt rfl rfl rfl
theorem m_fi2 {H : List AE} (hlen : Nat.ble 204 H.length = true) {sm pm pn fm te gu p0 nu sg fa pl td : Int32} {n sz lim a fr kd : Nat} {wd : Int64} {pr : List Value} {nw ri lf ha : List Int32} {P Dn bo : Nat} {ts : List Int32} {B : Nat → Nat} (hM : MY ts B) (hb : ∀ i, B i < 256) (hP : P ≤ 7) (hD : Dn ≤ 8) (v0 : nw[0]? = some (Int32.ofNat P)) (v1 : nw[1]? = some (Int32.ofNat Dn)) (h44 : nw[44]? = some (Int32.ofNat bo)) (hbo : bo < 256) (lr : ri.length = 7) (ll : lf.length = 7) (lh : ha.length = 8) (vp : ∀ i, i < P → ri[i]? = nw[5 + i]? ∧ lf[i]? = nw[12 + i]?) (vd : ∀ d, d < Dn → ha[d]? = nw[20 + d]?) {fi ty : List Int32} (h0 : H[180]? = some (mcl p0 (Int32.ofNat n) sz lim a fr kd nu sg fa pl wd td (pof (.int sm :: .ref 192 :: .ref 193 :: .ref 194 :: .int pm :: .int pn :: .ref 195 :: .ref 196 :: .int fm :: .int te :: .int gu :: pr)))) (h1 : H[181]? = some (mtl ts)) (h2 : H[182]? = some (ia nw)) (h3 : H[195]? = some (ia fi)) (h4 : H[196]? = some (ia ty)) (lf9 : fi.length = 21) (lt9 : ty.length = 21) {m : Nat} (hn : n = 2 * m) (hm1 : 1 ≤ m) (hm : m ≤ 6) (hg : ∀ i, i < m → B (2 * i) < Dn ∧ B (2 * i + 1) ≤ 1) {b : Nat} (hb2 : b < 2 ^ (3 * P)) (hbt : ∀ c, c < 3 * P → b.testBit c = soL (fun d => KK' bo d ri lf ha c) B m 0 true) (hz : ¬ b = 0) : FR 6 202 [.ref 180] H (some (.int (Int32.ofNat (cnt b 21))), ov H [(180, mcl (Int32.ofNat 0) (Int32.ofNat 0) sz lim a fr kd nu sg fa pl wd td (pof (.int sm :: .ref 192 :: .ref 193 :: .ref 194 :: .int pm :: .int pn :: .ref 195 :: .ref 196 :: .int (Int32.ofNat (cnt b 21)) :: .int (Int32.ofNat (mnF (fun d => dif (cnt (b &&& cbL (KK' bo d ri lf ha) (3 * P) 0 0) 21) (cnt b 21)) (Dn - 1) 1 0)) :: .int gu :: pr))), (195, ia (cpl (tyL b (3 * P) 0 ty) fi (cnt b (3 * P)) 0)), (196, ia (tyL b (3 * P) 0 ty))]) := by
  have c21 : cnt b 21 = cnt b (3 * P) := by
    have := cnt_top (k := 21 - 3 * P) hb2
    rw [show 3 * P + (21 - 3 * P) = 21 by omega] at this
    exact this
  have c9 := cnt_le (b := b) (3 * P)
  have c0 := cnt_0 hb2
  obtain ⟨t1, t2⟩ := tyL_ok (b := b) (3 * P) 0 ty (by omega) lt9 (fun x hx => absurd hx (Nat.not_lt_zero x))
  refine FR_ov (l := [(180, mcl p0 (Int32.ofNat n) sz lim a fr kd nu sg fa pl wd td (pof (.int sm :: .ref 192 :: .ref 193 :: .ref 194 :: .int pm :: .int pn :: .ref 195 :: .ref 196 :: .int fm :: .int te :: .int gu :: pr))), (181, mtl ts), (182, ia nw), (195, ia fi), (196, ia ty)]) (l2 := [(180, mcl (Int32.ofNat 0) (Int32.ofNat 0) sz lim a fr kd nu sg fa pl wd td (pof (.int sm :: .ref 192 :: .ref 193 :: .ref 194 :: .int pm :: .int pn :: .ref 195 :: .ref 196 :: .int (Int32.ofNat (cnt b 21)) :: .int (Int32.ofNat (mnF (fun d => dif (cnt (b &&& cbL (KK' bo d ri lf ha) (3 * P) 0 0) 21) (cnt b 21)) (Dn - 1) 1 0)) :: .int gu :: pr))), (181, mtl ts), (182, ia nw), (195, ia (cpl (tyL b (3 * P) 0 ty) fi (cnt b (3 * P)) 0)), (196, ia (tyL b (3 * P) 0 ty))]) (ov_id h0 (ov_id h1 (ov_id h2 (ov_id h3 (ov_c1 h4))))) rfl (ov_take (ov_skip h1 rfl (ov_skip h2 rfl rfl))) ?_
  subst hn
  have ci2 : FR 1 218 [.int (Int32.ofNat (2 * m / 2)), .int (Int32.ofNat 1), .int (Int32.ofNat 6)] (ov H [(180, mcl (Int32.ofNat 0) (Int32.ofNat 0) sz lim a fr kd nu sg fa pl wd td (pof (.int sm :: .ref 192 :: .ref 193 :: .ref 194 :: .int pm :: .int pn :: .ref 195 :: .ref 196 :: .int fm :: .int te :: .int gu :: pr))), (181, mtl ts), (182, ia nw), (195, ia fi), (196, ia ty)]) (some (.int (Int32.ofNat 1)), ov (ov H [(180, mcl (Int32.ofNat 0) (Int32.ofNat 0) sz lim a fr kd nu sg fa pl wd td (pof (.int sm :: .ref 192 :: .ref 193 :: .ref 194 :: .int pm :: .int pn :: .ref 195 :: .ref 196 :: .int fm :: .int te :: .int gu :: pr))), (181, mtl ts), (182, ia nw), (195, ia fi), (196, ia ty)]) []) := m_isIn1 (n_le (by omega) (by omega)) (n_le (by omega) (by decide))
  refine RT_step (pc2 := 1) rfl (fun _ _ => rfl) ?_
  refine rt_ico rfl ki_0 ?_
  refine ow_pf rfl rfl rfl rfl rfl hlen rfl rfl ?_
  refine RT_step (pc2 := 6) rfl (fun _ _ => rfl) ?_
  refine ow_iv1 (l2 := [(180, mcl (Int32.ofNat 0) (Int32.ofNat 0) sz lim a fr kd nu sg fa pl wd td (pof (.int sm :: .ref 192 :: .ref 193 :: .ref 194 :: .int pm :: .int pn :: .ref 195 :: .ref 196 :: .int fm :: .int te :: .int gu :: pr))), (181, mtl ts), (182, ia nw), (195, ia fi), (196, ia ty)]) rfl rfl rfl rfl hlen rfl rfl rfl ((m_take (p0 := (Int32.ofNat 0)) (n := 2 * m) (ov_hl hlen) (ov_at rfl (ov_lt hlen (by decide)))).up (by decide)) rfl ?_
  refine RT_step (pc2 := 10) rfl (fun _ _ => rfl) ?_
  refine RT_step (pc2 := 11) rfl (fun _ _ => rfl) ?_
  refine rt_ico rfl ki_2 ?_
  refine rt_rem rfl (by decide) (rm2 (2 * m) (by omega)) ?_
  refine bcT_ne rfl (n_eq (b := 0) (by omega)) ?_
  refine RT_step (pc2 := 17) rfl (fun _ _ => rfl) ?_
  refine rt_ico rfl ki_2 ?_
  refine rt_div rfl (by decide) (dv2 (2 * m) (by omega)) ?_
  refine rt_ico rfl ki_1 ?_
  refine rt_bip rfl k8_6 ?_
  refine ow_is1 (l2 := [(180, mcl (Int32.ofNat 0) (Int32.ofNat 0) sz lim a fr kd nu sg fa pl wd td (pof (.int sm :: .ref 192 :: .ref 193 :: .ref 194 :: .int pm :: .int pn :: .ref 195 :: .ref 196 :: .int fm :: .int te :: .int gu :: pr))), (181, mtl ts), (182, ia nw), (195, ia fi), (196, ia ty)]) rfl rfl rfl rfl rfl (ci2.up (by decide)) rfl ?_
  refine bcF_ne rfl (by decide) ?_
  refine rt_ico rfl ki_0 ?_
  refine RT_step (pc2 := 32) rfl (fun _ _ => rfl) ?_
  refine m_ck1 (n := 0) (p0 := 0) (dd := 1) hlen hM hb hP hD v0 v1 h44 hbo lr ll lh vp vd (m := m) hm hg m 0 _ (by omega) rfl rfl rfl (fun L2 l0 l1 => ?_)
  refine rt_ico rfl ki_0 ?_
  refine rt_ist rfl (by decide +kernel) ?_
  refine rt_ico rfl ki_0 ?_
  refine rt_ist rfl (by decide +kernel) ?_
  refine m_ha (n := 0) (p0 := 0) (dd := 1) hlen hM hb hP hD v0 v1 h44 hbo lr ll lh vp vd hm hg hbt (3 * P) 0 ty _ (by omega) lt9 (gs_o rfl (gs_o rfl l0 rfl) rfl) (gs_o rfl (gs_o rfl l1 rfl) rfl) (gs_o rfl gs_n rfl) gs_n (fun L3 p0 p2 => ?_)
  have hz9 : ¬ cnt b (3 * P) = 0 := fun e => hz (c0.mp e)
  refine rt_ild rfl p2 ?_
  refine bcF_ne rfl (n_ne (b := 0) hz9 (by omega) (by decide)) ?_
  refine rt_ico rfl ki_0 ?_
  refine rt_ist rfl (by decide +kernel) ?_
  refine m_cpf (n := 0) (p0 := 0) (ri := []) (lf := []) (ha := []) (P := 0) (Dn := 0) (bo := 0) (B := fun _ => 0) (dd := 1) hlen t1 (k9 := cnt b (3 * P)) (by omega) (cnt b (3 * P)) 0 fi _ (by omega) lf9 (gs_o rfl p0 rfl) (gs_o rfl p2 rfl) gs_n (fun L4 r0 r2 => ?_)
  rw [← c21] at r2
  have hd0 := (hg 0 (by omega)).1
  have hf9 : ∀ x, b.testBit x = true → (cpl (tyL b (3 * P) 0 ty) fi (cnt b (3 * P)) 0)[cnt b x]? = some (Int32.ofNat x) := fun x hx => by
    have hx3 := bit_lt hb2 hx
    have hlt : cnt b x < cnt b (3 * P) := by
      have := cnt_mono (b := b) (i := x + 1) (k := 3 * P - (x + 1))
      rw [show x + 1 + (3 * P - (x + 1)) = 3 * P by omega, cnt_t hx] at this
      omega
    rw [cpl_at (Nat.zero_le _) (by omega) (by omega) (by omega)]
    exact t2 x (by omega) hx
  refine rt_ald rfl r0 ?_
  refine rt_ild rfl r2 ?_
  refine ow_pf rfl rfl rfl rfl rfl hlen rfl rfl ?_
  refine rt_ald rfl r0 ?_
  refine rt_ico rfl ki_0 ?_
  refine ow_pf rfl rfl rfl rfl rfl hlen rfl rfl ?_
  refine rt_ico rfl ki_1 ?_
  refine rt_ist rfl (by decide +kernel) ?_
  refine m_teL (n := 0) (p0 := 0) (fm := 0) (te := 0) (dd := 1) hlen hM hb hP hD v0 v1 h44 hbo lr ll lh vp vd (by omega) hb2 hf9 (Dn - 1) 1 0 _ (by omega) (by decide) (gs_o rfl r0 rfl) (gs_o rfl r2 rfl) gs_n (fun L5 s2 => ?_)
  refine rt_ild rfl s2 ?_
  exact ow_irt rfl rfl rfl
