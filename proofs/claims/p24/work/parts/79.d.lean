/-! ===== image, restore keep the relation ===== -/
def cuW (W : WR) : Bool := (wr_not W 2 && wr_not W 181) && ((rng W 3 20 && wr_off W 0 1 2) && (wr_off W 182 0 100 && wr_not W 187))
theorem cu_keep {W : WR} {h0 h1 : List AE} (hA : Agr W h0 h1) (hw : cuW W = true) (h : TPH h0 ∧ CUR h0) : TPH h1 ∧ CUR h1 := by
  unfold cuW at hw
  simp only [Bool.and_eq_true] at hw
  obtain ⟨⟨w1, w2⟩, ⟨w3, w4⟩, w5, w6⟩ := hw
  exact ⟨tph_keep (ag_ce hA w1) (ag_ce hA w2) h.1, cur_keep (fun a x y => ag_ce hA (rng_at w3 x (by omega))) (ag_off hA w4 (by decide) (by decide)) (ag_off hA w4 (by decide) (by decide)) (fun j hj => ag_off hA w5 (by omega) (by omega)) (fun j hj => ag_hq hA w6 _) h.2⟩
theorem tp_keep2 {W : WR} {h0 h1 : List AE} (hA : Agr W h0 h1) (w : (wr_not W 2 && wr_not W 181) = true) (h : TPH h0) : TPH h1 := by
  rw [Bool.and_eq_true] at w
  exact tph_keep (ag_ce hA w.1) (ag_ce hA w.2) h
theorem se_two {hp : List AE} (G : hp_ok GG hp) : hq hp 0 7 = some (.ref 110) ∨ hq hp 0 7 = some (.ref 115) := by
  obtain ⟨d, s, se, ss, lt, fb, tq, gb, e0, -, -, h, -⟩ := oc_0 G
  rcases h with rfl | rfl
  · exact Or.inl ((hq_obj e0).trans rfl)
  · exact Or.inr ((hq_obj e0).trans rfl)
theorem wim_0 : cuW (cW (syt_im 0)) = true ∧ rng (cW (syt_im 0)) 133 10 = true ∧ wr_off (cW (syt_im 0)) 132 0 0 = true ∧ rng (cW (syt_im 0)) 157 10 = true ∧ wr_off (cW (syt_im 0)) 156 0 0 = true ∧ wr_off (cW (syt_im 0)) 184 396 496 = true ∧ wr_off (cW (syt_im 0)) 189 15 29 = true := by decide +kernel
theorem wim_1 : cuW (cW (syt_im 1)) = true ∧ rng (cW (syt_im 1)) 133 10 = true ∧ wr_off (cW (syt_im 1)) 132 0 0 = true ∧ rng (cW (syt_im 1)) 157 10 = true ∧ wr_off (cW (syt_im 1)) 156 0 0 = true ∧ wr_off (cW (syt_im 1)) 184 0 100 = true ∧ wr_off (cW (syt_im 1)) 189 0 14 = true := by decide +kernel
theorem wre : ∀ k, k < 2 → imW (cW (syt_re k)) = true ∧ (wr_not (cW (syt_re k)) 2 && wr_not (cW (syt_re k)) 181) = true ∧ rng (cW (syt_re k)) 3 20 = true ∧ wr_off (cW (syt_re k)) 0 1 2 = true ∧ wr_not (cW (syt_re k)) 184 = true ∧ wr_not (cW (syt_re k)) 189 = true := by decide +kernel
theorem dimg0 {hp hc hd : List AE} {V : WR} {r : Int32} {k1 : Nat} (G : hp_ok GG hp) (hlen : Nat.ble 204 hp.length = true) (D : DEEP hp) (f1 : FR k1 25 [.ref 0, .int (Int32.ofNat 0)] hp (some (.int r), hc)) (A1 : Agr V hp hc) (hv : (cuW V && (rng V 157 10 && wr_off V 156 0 0) && (wr_not V 184 && wr_not V 189)) = true) (A2 : Agr (cW (syt_im 0)) hc hd) (cp : ∀ j, j < 396 → hq hd 184 (396 * 0 + j) = hq hd 182 (0 + j)) (cn : ∀ j, j < 15 → hq hd 189 (15 * 0 + j) = hq hd 187 (0 + j)) : DEEP hd := by
  simp only [Bool.and_eq_true] at hv
  obtain ⟨⟨v1, v2, v3⟩, v4, v5⟩ := hv
  obtain ⟨u1, u2, u3, u4, u5, u6, u7⟩ := wim_0
  have t := cu_keep A2 u1 (cu_keep A1 v1 ⟨D.1, D.2.1⟩)
  have s : IM1 hd := im1_keep (fun a x y => ag_ce A2 (rng_at u4 x (by omega))) (ag_off A2 u5 (by decide) (by decide)) (fun j hj => ag_off A2 u6 (by omega) (by omega)) (fun j hj => ag_off A2 u7 (by omega) (by omega)) (im1_keep (fun a x y => ag_ce A1 (rng_at v2 x (by omega))) (ag_off A1 v3 (by decide) (by decide)) (fun j hj => ag_hq A1 v4 _) (fun j hj => ag_hq A1 v5 _) D.2.2.2)
  have w18 : cuW V = true := v1
  unfold cuW at v1
  simp only [Bool.and_eq_true] at v1
  obtain ⟨-, -, w5, w6⟩ := v1
  have y1 := u1
  unfold cuW at y1
  simp only [Bool.and_eq_true] at y1
  obtain ⟨-, -, y5, y6⟩ := y1
  refine ⟨t.1, t.2, fun _ => ?_, s⟩
  rcases D.2.1 with ⟨a1, a2, a3⟩ | ⟨a1, a2, a3⟩ <;> rcases se_two G with h | h
  · obtain ⟨P, Dn, lw, cl, id, gl, bo, pn, ri, lf, wa, fo, dn, ha, pa, bl, rd, rn, h9, hx, n0, n1, n2, n3, n4, n5, n6, n7, n8, n9, z1, z2, z3, z4, z5⟩ := im0_3_110 G hlen a1 h a3
    obtain ⟨-, q⟩ := vi_inj (FR.det f1 hx)
    subst q
    have kc : ∀ a, 133 ≤ a → a ≤ 142 → Ceq hc hd a := fun a x y => ag_ce A2 (rng_at u2 x (by omega))
    refine ⟨P, Dn, lw, cl, id, gl, bo, pn, ri, lf, wa, fo, dn, ha, pa, bl, rd, rn, ce_obj (kc 133 (by decide) (by decide)) n0, ce_lng (kc 134 (by decide) (by decide)) n1, ce_int (kc 135 (by decide) (by decide)) n2, ce_int (kc 136 (by decide) (by decide)) n3, ce_int (kc 137 (by decide) (by decide)) n4, ce_int (kc 138 (by decide) (by decide)) n5, ce_lng (kc 139 (by decide) (by decide)) n6, ce_int (kc 140 (by decide) (by decide)) n7, ce_int (kc 141 (by decide) (by decide)) n8, ce_int (kc 142 (by decide) (by decide)) n9, z1, z2, z3, fun j hj => ?_, fun j hj => ?_⟩
    · rw [show 0 + j = 396 * 0 + j by omega, cp j (by omega), ag_off A2 y5 (by omega) (by omega), ag_off A1 w5 (by omega) (by omega)]; exact z4 j hj
    · rw [show 0 + j = 15 * 0 + j by omega, cn j hj, ag_hq A2 y6 _, ag_hq A1 w6 _]; exact z5 j hj
  · obtain ⟨P, Dn, lw, cl, id, gl, bo, pn, ri, lf, wa, fo, dn, ha, pa, bl, rd, rn, h9, hx, n0, n1, n2, n3, n4, n5, n6, n7, n8, n9, z1, z2, z3, z4, z5⟩ := im0_3_115 G hlen a1 h a3
    obtain ⟨-, q⟩ := vi_inj (FR.det f1 hx)
    subst q
    have kc : ∀ a, 133 ≤ a → a ≤ 142 → Ceq hc hd a := fun a x y => ag_ce A2 (rng_at u2 x (by omega))
    refine ⟨P, Dn, lw, cl, id, gl, bo, pn, ri, lf, wa, fo, dn, ha, pa, bl, rd, rn, ce_obj (kc 133 (by decide) (by decide)) n0, ce_lng (kc 134 (by decide) (by decide)) n1, ce_int (kc 135 (by decide) (by decide)) n2, ce_int (kc 136 (by decide) (by decide)) n3, ce_int (kc 137 (by decide) (by decide)) n4, ce_int (kc 138 (by decide) (by decide)) n5, ce_lng (kc 139 (by decide) (by decide)) n6, ce_int (kc 140 (by decide) (by decide)) n7, ce_int (kc 141 (by decide) (by decide)) n8, ce_int (kc 142 (by decide) (by decide)) n9, z1, z2, z3, fun j hj => ?_, fun j hj => ?_⟩
    · rw [show 0 + j = 396 * 0 + j by omega, cp j (by omega), ag_off A2 y5 (by omega) (by omega), ag_off A1 w5 (by omega) (by omega)]; exact z4 j hj
    · rw [show 0 + j = 15 * 0 + j by omega, cn j hj, ag_hq A2 y6 _, ag_hq A1 w6 _]; exact z5 j hj
  · obtain ⟨P, Dn, lw, cl, id, gl, bo, pn, ri, lf, wa, fo, dn, ha, pa, bl, rd, rn, h9, hx, n0, n1, n2, n3, n4, n5, n6, n7, n8, n9, z1, z2, z3, z4, z5⟩ := im0_13_110 G hlen a1 h a3
    obtain ⟨-, q⟩ := vi_inj (FR.det f1 hx)
    subst q
    have kc : ∀ a, 133 ≤ a → a ≤ 142 → Ceq hc hd a := fun a x y => ag_ce A2 (rng_at u2 x (by omega))
    refine ⟨P, Dn, lw, cl, id, gl, bo, pn, ri, lf, wa, fo, dn, ha, pa, bl, rd, rn, ce_obj (kc 133 (by decide) (by decide)) n0, ce_lng (kc 134 (by decide) (by decide)) n1, ce_int (kc 135 (by decide) (by decide)) n2, ce_int (kc 136 (by decide) (by decide)) n3, ce_int (kc 137 (by decide) (by decide)) n4, ce_int (kc 138 (by decide) (by decide)) n5, ce_lng (kc 139 (by decide) (by decide)) n6, ce_int (kc 140 (by decide) (by decide)) n7, ce_int (kc 141 (by decide) (by decide)) n8, ce_int (kc 142 (by decide) (by decide)) n9, z1, z2, z3, fun j hj => ?_, fun j hj => ?_⟩
    · rw [show 0 + j = 396 * 0 + j by omega, cp j (by omega), ag_off A2 y5 (by omega) (by omega), ag_off A1 w5 (by omega) (by omega)]; exact z4 j hj
    · rw [show 0 + j = 15 * 0 + j by omega, cn j hj, ag_hq A2 y6 _, ag_hq A1 w6 _]; exact z5 j hj
  · obtain ⟨P, Dn, lw, cl, id, gl, bo, pn, ri, lf, wa, fo, dn, ha, pa, bl, rd, rn, h9, hx, n0, n1, n2, n3, n4, n5, n6, n7, n8, n9, z1, z2, z3, z4, z5⟩ := im0_13_115 G hlen a1 h a3
    obtain ⟨-, q⟩ := vi_inj (FR.det f1 hx)
    subst q
    have kc : ∀ a, 133 ≤ a → a ≤ 142 → Ceq hc hd a := fun a x y => ag_ce A2 (rng_at u2 x (by omega))
    refine ⟨P, Dn, lw, cl, id, gl, bo, pn, ri, lf, wa, fo, dn, ha, pa, bl, rd, rn, ce_obj (kc 133 (by decide) (by decide)) n0, ce_lng (kc 134 (by decide) (by decide)) n1, ce_int (kc 135 (by decide) (by decide)) n2, ce_int (kc 136 (by decide) (by decide)) n3, ce_int (kc 137 (by decide) (by decide)) n4, ce_int (kc 138 (by decide) (by decide)) n5, ce_lng (kc 139 (by decide) (by decide)) n6, ce_int (kc 140 (by decide) (by decide)) n7, ce_int (kc 141 (by decide) (by decide)) n8, ce_int (kc 142 (by decide) (by decide)) n9, z1, z2, z3, fun j hj => ?_, fun j hj => ?_⟩
    · rw [show 0 + j = 396 * 0 + j by omega, cp j (by omega), ag_off A2 y5 (by omega) (by omega), ag_off A1 w5 (by omega) (by omega)]; exact z4 j hj
    · rw [show 0 + j = 15 * 0 + j by omega, cn j hj, ag_hq A2 y6 _, ag_hq A1 w6 _]; exact z5 j hj
theorem drest0 {hp hc hd : List AE} {V : WR} {r : Int32} {k1 : Nat} (G : hp_ok GG hp) (hlen : Nat.ble 204 hp.length = true) (D : DEEP hp) (hk : hq hp 132 0 = some (.int 1)) (f1 : FR k1 35 [.ref 0, .int (Int32.ofNat 0)] hp (some (.int r), hc)) (A1 : Agr V hp hc) (hv : (imW V && (wr_not V 2 && wr_not V 181) && wr_off V 0 1 2 && (wr_not V 184 && wr_not V 189)) = true) (A2 : Agr (cW (syt_re 0)) hc hd) (cp : ∀ j, j < 396 → hq hd 182 (0 + j) = hq hd 184 (396 * 0 + j)) (cn : ∀ j, j < 15 → hq hd 187 (0 + j) = hq hd 189 (15 * 0 + j)) : DEEP hd := by
  rw [Bool.and_eq_true, Bool.and_eq_true, Bool.and_eq_true] at hv
  obtain ⟨⟨⟨v1, v2⟩, v3⟩, v4⟩ := hv
  rw [Bool.and_eq_true] at v4
  obtain ⟨v4, v5⟩ := v4
  obtain ⟨u1, u2, u3, u4, u5, u6⟩ := wre 0 (by decide)
  have s := ims_keep A2 u1 (ims_keep A1 v1 D.2.2)
  have hD := D.2.2.1 hk
  refine ⟨tp_keep2 A2 u2 (tp_keep2 A1 v2 D.1), ?_, s⟩
  rcases D.2.1 with ⟨a1, a2, a3⟩ | ⟨a1, a2, a3⟩ <;> rcases se_two G with h | h
  · obtain ⟨P, Dn, lw, cl, id, gl, bo, pn, ri, lf, wa, fo, dn, ha, pa, bl, rd, rn, h9, hx, n0, n1, n2, n3, n4, n5, n6, n7, n8, n9, z1, z2, z3, z4, z5⟩ := re0_3_110 G hlen a1 h hk hD
    obtain ⟨-, q⟩ := vi_inj (FR.det f1 hx)
    subst q
    have kc : ∀ a, 3 ≤ a → a ≤ 12 → Ceq hc hd a := fun a x y => ag_ce A2 (rng_at u3 (by omega) (by omega))
    refine Or.inl ⟨by rw [ag_off A2 u4 (by decide) (by decide), ag_off A1 v3 (by decide) (by decide)]; exact a1, by rw [ag_off A2 u4 (by decide) (by decide), ag_off A1 v3 (by decide) (by decide)]; exact a2, P, Dn, lw, cl, id, gl, bo, pn, ri, lf, wa, fo, dn, ha, pa, bl, rd, rn, ce_obj (kc 3 (by decide) (by decide)) n0, ce_lng (kc 4 (by decide) (by decide)) n1, ce_int (kc 5 (by decide) (by decide)) n2, ce_int (kc 6 (by decide) (by decide)) n3, ce_int (kc 7 (by decide) (by decide)) n4, ce_int (kc 8 (by decide) (by decide)) n5, ce_lng (kc 9 (by decide) (by decide)) n6, ce_int (kc 10 (by decide) (by decide)) n7, ce_int (kc 11 (by decide) (by decide)) n8, ce_int (kc 12 (by decide) (by decide)) n9, z1, z2, z3, fun j hj => ?_, fun j hj => ?_⟩
    · rw [cp j (by omega), show 396 * 0 + j = 0 + j by omega, ag_hq A2 u5 _, ag_hq A1 v4 _]; exact z4 j hj
    · rw [cn j hj, show 15 * 0 + j = 0 + j by omega, ag_hq A2 u6 _, ag_hq A1 v5 _]; exact z5 j hj
  · obtain ⟨P, Dn, lw, cl, id, gl, bo, pn, ri, lf, wa, fo, dn, ha, pa, bl, rd, rn, h9, hx, n0, n1, n2, n3, n4, n5, n6, n7, n8, n9, z1, z2, z3, z4, z5⟩ := re0_3_115 G hlen a1 h hk hD
    obtain ⟨-, q⟩ := vi_inj (FR.det f1 hx)
    subst q
    have kc : ∀ a, 3 ≤ a → a ≤ 12 → Ceq hc hd a := fun a x y => ag_ce A2 (rng_at u3 (by omega) (by omega))
    refine Or.inl ⟨by rw [ag_off A2 u4 (by decide) (by decide), ag_off A1 v3 (by decide) (by decide)]; exact a1, by rw [ag_off A2 u4 (by decide) (by decide), ag_off A1 v3 (by decide) (by decide)]; exact a2, P, Dn, lw, cl, id, gl, bo, pn, ri, lf, wa, fo, dn, ha, pa, bl, rd, rn, ce_obj (kc 3 (by decide) (by decide)) n0, ce_lng (kc 4 (by decide) (by decide)) n1, ce_int (kc 5 (by decide) (by decide)) n2, ce_int (kc 6 (by decide) (by decide)) n3, ce_int (kc 7 (by decide) (by decide)) n4, ce_int (kc 8 (by decide) (by decide)) n5, ce_lng (kc 9 (by decide) (by decide)) n6, ce_int (kc 10 (by decide) (by decide)) n7, ce_int (kc 11 (by decide) (by decide)) n8, ce_int (kc 12 (by decide) (by decide)) n9, z1, z2, z3, fun j hj => ?_, fun j hj => ?_⟩
    · rw [cp j (by omega), show 396 * 0 + j = 0 + j by omega, ag_hq A2 u5 _, ag_hq A1 v4 _]; exact z4 j hj
    · rw [cn j hj, show 15 * 0 + j = 0 + j by omega, ag_hq A2 u6 _, ag_hq A1 v5 _]; exact z5 j hj
  · obtain ⟨P, Dn, lw, cl, id, gl, bo, pn, ri, lf, wa, fo, dn, ha, pa, bl, rd, rn, h9, hx, n0, n1, n2, n3, n4, n5, n6, n7, n8, n9, z1, z2, z3, z4, z5⟩ := re0_13_110 G hlen a1 h hk hD
    obtain ⟨-, q⟩ := vi_inj (FR.det f1 hx)
    subst q
    have kc : ∀ a, 13 ≤ a → a ≤ 22 → Ceq hc hd a := fun a x y => ag_ce A2 (rng_at u3 (by omega) (by omega))
    refine Or.inr ⟨by rw [ag_off A2 u4 (by decide) (by decide), ag_off A1 v3 (by decide) (by decide)]; exact a1, by rw [ag_off A2 u4 (by decide) (by decide), ag_off A1 v3 (by decide) (by decide)]; exact a2, P, Dn, lw, cl, id, gl, bo, pn, ri, lf, wa, fo, dn, ha, pa, bl, rd, rn, ce_obj (kc 13 (by decide) (by decide)) n0, ce_lng (kc 14 (by decide) (by decide)) n1, ce_int (kc 15 (by decide) (by decide)) n2, ce_int (kc 16 (by decide) (by decide)) n3, ce_int (kc 17 (by decide) (by decide)) n4, ce_int (kc 18 (by decide) (by decide)) n5, ce_lng (kc 19 (by decide) (by decide)) n6, ce_int (kc 20 (by decide) (by decide)) n7, ce_int (kc 21 (by decide) (by decide)) n8, ce_int (kc 22 (by decide) (by decide)) n9, z1, z2, z3, fun j hj => ?_, fun j hj => ?_⟩
    · rw [cp j (by omega), show 396 * 0 + j = 0 + j by omega, ag_hq A2 u5 _, ag_hq A1 v4 _]; exact z4 j hj
    · rw [cn j hj, show 15 * 0 + j = 0 + j by omega, ag_hq A2 u6 _, ag_hq A1 v5 _]; exact z5 j hj
  · obtain ⟨P, Dn, lw, cl, id, gl, bo, pn, ri, lf, wa, fo, dn, ha, pa, bl, rd, rn, h9, hx, n0, n1, n2, n3, n4, n5, n6, n7, n8, n9, z1, z2, z3, z4, z5⟩ := re0_13_115 G hlen a1 h hk hD
    obtain ⟨-, q⟩ := vi_inj (FR.det f1 hx)
    subst q
    have kc : ∀ a, 13 ≤ a → a ≤ 22 → Ceq hc hd a := fun a x y => ag_ce A2 (rng_at u3 (by omega) (by omega))
    refine Or.inr ⟨by rw [ag_off A2 u4 (by decide) (by decide), ag_off A1 v3 (by decide) (by decide)]; exact a1, by rw [ag_off A2 u4 (by decide) (by decide), ag_off A1 v3 (by decide) (by decide)]; exact a2, P, Dn, lw, cl, id, gl, bo, pn, ri, lf, wa, fo, dn, ha, pa, bl, rd, rn, ce_obj (kc 13 (by decide) (by decide)) n0, ce_lng (kc 14 (by decide) (by decide)) n1, ce_int (kc 15 (by decide) (by decide)) n2, ce_int (kc 16 (by decide) (by decide)) n3, ce_int (kc 17 (by decide) (by decide)) n4, ce_int (kc 18 (by decide) (by decide)) n5, ce_lng (kc 19 (by decide) (by decide)) n6, ce_int (kc 20 (by decide) (by decide)) n7, ce_int (kc 21 (by decide) (by decide)) n8, ce_int (kc 22 (by decide) (by decide)) n9, z1, z2, z3, fun j hj => ?_, fun j hj => ?_⟩
    · rw [cp j (by omega), show 396 * 0 + j = 0 + j by omega, ag_hq A2 u5 _, ag_hq A1 v4 _]; exact z4 j hj
    · rw [cn j hj, show 15 * 0 + j = 0 + j by omega, ag_hq A2 u6 _, ag_hq A1 v5 _]; exact z5 j hj
theorem dimg1 {hp hc hd : List AE} {V : WR} {r : Int32} {k1 : Nat} (G : hp_ok GG hp) (hlen : Nat.ble 204 hp.length = true) (D : DEEP hp) (f1 : FR k1 25 [.ref 0, .int (Int32.ofNat 1)] hp (some (.int r), hc)) (A1 : Agr V hp hc) (hv : (cuW V && (rng V 133 10 && wr_off V 132 0 0) && (wr_not V 184 && wr_not V 189)) = true) (A2 : Agr (cW (syt_im 1)) hc hd) (cp : ∀ j, j < 396 → hq hd 184 (396 * 1 + j) = hq hd 182 (0 + j)) (cn : ∀ j, j < 15 → hq hd 189 (15 * 1 + j) = hq hd 187 (0 + j)) : DEEP hd := by
  simp only [Bool.and_eq_true] at hv
  obtain ⟨⟨v1, v2, v3⟩, v4, v5⟩ := hv
  obtain ⟨u1, u2, u3, u4, u5, u6, u7⟩ := wim_1
  have t := cu_keep A2 u1 (cu_keep A1 v1 ⟨D.1, D.2.1⟩)
  have s : IM0 hd := im0_keep (fun a x y => ag_ce A2 (rng_at u2 x (by omega))) (ag_off A2 u3 (by decide) (by decide)) (fun j hj => ag_off A2 u6 (by omega) (by omega)) (fun j hj => ag_off A2 u7 (by omega) (by omega)) (im0_keep (fun a x y => ag_ce A1 (rng_at v2 x (by omega))) (ag_off A1 v3 (by decide) (by decide)) (fun j hj => ag_hq A1 v4 _) (fun j hj => ag_hq A1 v5 _) D.2.2.1)
  have w18 : cuW V = true := v1
  unfold cuW at v1
  simp only [Bool.and_eq_true] at v1
  obtain ⟨-, -, w5, w6⟩ := v1
  have y1 := u1
  unfold cuW at y1
  simp only [Bool.and_eq_true] at y1
  obtain ⟨-, -, y5, y6⟩ := y1
  refine ⟨t.1, t.2, s, fun _ => ?_⟩
  rcases D.2.1 with ⟨a1, a2, a3⟩ | ⟨a1, a2, a3⟩ <;> rcases se_two G with h | h
  · obtain ⟨P, Dn, lw, cl, id, gl, bo, pn, ri, lf, wa, fo, dn, ha, pa, bl, rd, rn, h9, hx, n0, n1, n2, n3, n4, n5, n6, n7, n8, n9, z1, z2, z3, z4, z5⟩ := im1_3_110 G hlen a1 h a3
    obtain ⟨-, q⟩ := vi_inj (FR.det f1 hx)
    subst q
    have kc : ∀ a, 157 ≤ a → a ≤ 166 → Ceq hc hd a := fun a x y => ag_ce A2 (rng_at u4 x (by omega))
    refine ⟨P, Dn, lw, cl, id, gl, bo, pn, ri, lf, wa, fo, dn, ha, pa, bl, rd, rn, ce_obj (kc 157 (by decide) (by decide)) n0, ce_lng (kc 158 (by decide) (by decide)) n1, ce_int (kc 159 (by decide) (by decide)) n2, ce_int (kc 160 (by decide) (by decide)) n3, ce_int (kc 161 (by decide) (by decide)) n4, ce_int (kc 162 (by decide) (by decide)) n5, ce_lng (kc 163 (by decide) (by decide)) n6, ce_int (kc 164 (by decide) (by decide)) n7, ce_int (kc 165 (by decide) (by decide)) n8, ce_int (kc 166 (by decide) (by decide)) n9, z1, z2, z3, fun j hj => ?_, fun j hj => ?_⟩
    · rw [show 396 + j = 396 * 1 + j by omega, cp j (by omega), ag_off A2 y5 (by omega) (by omega), ag_off A1 w5 (by omega) (by omega)]; exact z4 j hj
    · rw [show 15 + j = 15 * 1 + j by omega, cn j hj, ag_hq A2 y6 _, ag_hq A1 w6 _]; exact z5 j hj
  · obtain ⟨P, Dn, lw, cl, id, gl, bo, pn, ri, lf, wa, fo, dn, ha, pa, bl, rd, rn, h9, hx, n0, n1, n2, n3, n4, n5, n6, n7, n8, n9, z1, z2, z3, z4, z5⟩ := im1_3_115 G hlen a1 h a3
    obtain ⟨-, q⟩ := vi_inj (FR.det f1 hx)
    subst q
    have kc : ∀ a, 157 ≤ a → a ≤ 166 → Ceq hc hd a := fun a x y => ag_ce A2 (rng_at u4 x (by omega))
    refine ⟨P, Dn, lw, cl, id, gl, bo, pn, ri, lf, wa, fo, dn, ha, pa, bl, rd, rn, ce_obj (kc 157 (by decide) (by decide)) n0, ce_lng (kc 158 (by decide) (by decide)) n1, ce_int (kc 159 (by decide) (by decide)) n2, ce_int (kc 160 (by decide) (by decide)) n3, ce_int (kc 161 (by decide) (by decide)) n4, ce_int (kc 162 (by decide) (by decide)) n5, ce_lng (kc 163 (by decide) (by decide)) n6, ce_int (kc 164 (by decide) (by decide)) n7, ce_int (kc 165 (by decide) (by decide)) n8, ce_int (kc 166 (by decide) (by decide)) n9, z1, z2, z3, fun j hj => ?_, fun j hj => ?_⟩
    · rw [show 396 + j = 396 * 1 + j by omega, cp j (by omega), ag_off A2 y5 (by omega) (by omega), ag_off A1 w5 (by omega) (by omega)]; exact z4 j hj
    · rw [show 15 + j = 15 * 1 + j by omega, cn j hj, ag_hq A2 y6 _, ag_hq A1 w6 _]; exact z5 j hj
  · obtain ⟨P, Dn, lw, cl, id, gl, bo, pn, ri, lf, wa, fo, dn, ha, pa, bl, rd, rn, h9, hx, n0, n1, n2, n3, n4, n5, n6, n7, n8, n9, z1, z2, z3, z4, z5⟩ := im1_13_110 G hlen a1 h a3
    obtain ⟨-, q⟩ := vi_inj (FR.det f1 hx)
    subst q
    have kc : ∀ a, 157 ≤ a → a ≤ 166 → Ceq hc hd a := fun a x y => ag_ce A2 (rng_at u4 x (by omega))
    refine ⟨P, Dn, lw, cl, id, gl, bo, pn, ri, lf, wa, fo, dn, ha, pa, bl, rd, rn, ce_obj (kc 157 (by decide) (by decide)) n0, ce_lng (kc 158 (by decide) (by decide)) n1, ce_int (kc 159 (by decide) (by decide)) n2, ce_int (kc 160 (by decide) (by decide)) n3, ce_int (kc 161 (by decide) (by decide)) n4, ce_int (kc 162 (by decide) (by decide)) n5, ce_lng (kc 163 (by decide) (by decide)) n6, ce_int (kc 164 (by decide) (by decide)) n7, ce_int (kc 165 (by decide) (by decide)) n8, ce_int (kc 166 (by decide) (by decide)) n9, z1, z2, z3, fun j hj => ?_, fun j hj => ?_⟩
    · rw [show 396 + j = 396 * 1 + j by omega, cp j (by omega), ag_off A2 y5 (by omega) (by omega), ag_off A1 w5 (by omega) (by omega)]; exact z4 j hj
    · rw [show 15 + j = 15 * 1 + j by omega, cn j hj, ag_hq A2 y6 _, ag_hq A1 w6 _]; exact z5 j hj
  · obtain ⟨P, Dn, lw, cl, id, gl, bo, pn, ri, lf, wa, fo, dn, ha, pa, bl, rd, rn, h9, hx, n0, n1, n2, n3, n4, n5, n6, n7, n8, n9, z1, z2, z3, z4, z5⟩ := im1_13_115 G hlen a1 h a3
    obtain ⟨-, q⟩ := vi_inj (FR.det f1 hx)
    subst q
    have kc : ∀ a, 157 ≤ a → a ≤ 166 → Ceq hc hd a := fun a x y => ag_ce A2 (rng_at u4 x (by omega))
    refine ⟨P, Dn, lw, cl, id, gl, bo, pn, ri, lf, wa, fo, dn, ha, pa, bl, rd, rn, ce_obj (kc 157 (by decide) (by decide)) n0, ce_lng (kc 158 (by decide) (by decide)) n1, ce_int (kc 159 (by decide) (by decide)) n2, ce_int (kc 160 (by decide) (by decide)) n3, ce_int (kc 161 (by decide) (by decide)) n4, ce_int (kc 162 (by decide) (by decide)) n5, ce_lng (kc 163 (by decide) (by decide)) n6, ce_int (kc 164 (by decide) (by decide)) n7, ce_int (kc 165 (by decide) (by decide)) n8, ce_int (kc 166 (by decide) (by decide)) n9, z1, z2, z3, fun j hj => ?_, fun j hj => ?_⟩
    · rw [show 396 + j = 396 * 1 + j by omega, cp j (by omega), ag_off A2 y5 (by omega) (by omega), ag_off A1 w5 (by omega) (by omega)]; exact z4 j hj
    · rw [show 15 + j = 15 * 1 + j by omega, cn j hj, ag_hq A2 y6 _, ag_hq A1 w6 _]; exact z5 j hj
theorem drest1 {hp hc hd : List AE} {V : WR} {r : Int32} {k1 : Nat} (G : hp_ok GG hp) (hlen : Nat.ble 204 hp.length = true) (D : DEEP hp) (hk : hq hp 156 0 = some (.int 1)) (f1 : FR k1 35 [.ref 0, .int (Int32.ofNat 1)] hp (some (.int r), hc)) (A1 : Agr V hp hc) (hv : (imW V && (wr_not V 2 && wr_not V 181) && wr_off V 0 1 2 && (wr_not V 184 && wr_not V 189)) = true) (A2 : Agr (cW (syt_re 1)) hc hd) (cp : ∀ j, j < 396 → hq hd 182 (0 + j) = hq hd 184 (396 * 1 + j)) (cn : ∀ j, j < 15 → hq hd 187 (0 + j) = hq hd 189 (15 * 1 + j)) : DEEP hd := by
  rw [Bool.and_eq_true, Bool.and_eq_true, Bool.and_eq_true] at hv
  obtain ⟨⟨⟨v1, v2⟩, v3⟩, v4⟩ := hv
  rw [Bool.and_eq_true] at v4
  obtain ⟨v4, v5⟩ := v4
  obtain ⟨u1, u2, u3, u4, u5, u6⟩ := wre 1 (by decide)
  have s := ims_keep A2 u1 (ims_keep A1 v1 D.2.2)
  have hD := D.2.2.2 hk
  refine ⟨tp_keep2 A2 u2 (tp_keep2 A1 v2 D.1), ?_, s⟩
  rcases D.2.1 with ⟨a1, a2, a3⟩ | ⟨a1, a2, a3⟩ <;> rcases se_two G with h | h
  · obtain ⟨P, Dn, lw, cl, id, gl, bo, pn, ri, lf, wa, fo, dn, ha, pa, bl, rd, rn, h9, hx, n0, n1, n2, n3, n4, n5, n6, n7, n8, n9, z1, z2, z3, z4, z5⟩ := re1_3_110 G hlen a1 h hk hD
    obtain ⟨-, q⟩ := vi_inj (FR.det f1 hx)
    subst q
    have kc : ∀ a, 3 ≤ a → a ≤ 12 → Ceq hc hd a := fun a x y => ag_ce A2 (rng_at u3 (by omega) (by omega))
    refine Or.inl ⟨by rw [ag_off A2 u4 (by decide) (by decide), ag_off A1 v3 (by decide) (by decide)]; exact a1, by rw [ag_off A2 u4 (by decide) (by decide), ag_off A1 v3 (by decide) (by decide)]; exact a2, P, Dn, lw, cl, id, gl, bo, pn, ri, lf, wa, fo, dn, ha, pa, bl, rd, rn, ce_obj (kc 3 (by decide) (by decide)) n0, ce_lng (kc 4 (by decide) (by decide)) n1, ce_int (kc 5 (by decide) (by decide)) n2, ce_int (kc 6 (by decide) (by decide)) n3, ce_int (kc 7 (by decide) (by decide)) n4, ce_int (kc 8 (by decide) (by decide)) n5, ce_lng (kc 9 (by decide) (by decide)) n6, ce_int (kc 10 (by decide) (by decide)) n7, ce_int (kc 11 (by decide) (by decide)) n8, ce_int (kc 12 (by decide) (by decide)) n9, z1, z2, z3, fun j hj => ?_, fun j hj => ?_⟩
    · rw [cp j (by omega), show 396 * 1 + j = 396 + j by omega, ag_hq A2 u5 _, ag_hq A1 v4 _]; exact z4 j hj
    · rw [cn j hj, show 15 * 1 + j = 15 + j by omega, ag_hq A2 u6 _, ag_hq A1 v5 _]; exact z5 j hj
  · obtain ⟨P, Dn, lw, cl, id, gl, bo, pn, ri, lf, wa, fo, dn, ha, pa, bl, rd, rn, h9, hx, n0, n1, n2, n3, n4, n5, n6, n7, n8, n9, z1, z2, z3, z4, z5⟩ := re1_3_115 G hlen a1 h hk hD
    obtain ⟨-, q⟩ := vi_inj (FR.det f1 hx)
    subst q
    have kc : ∀ a, 3 ≤ a → a ≤ 12 → Ceq hc hd a := fun a x y => ag_ce A2 (rng_at u3 (by omega) (by omega))
    refine Or.inl ⟨by rw [ag_off A2 u4 (by decide) (by decide), ag_off A1 v3 (by decide) (by decide)]; exact a1, by rw [ag_off A2 u4 (by decide) (by decide), ag_off A1 v3 (by decide) (by decide)]; exact a2, P, Dn, lw, cl, id, gl, bo, pn, ri, lf, wa, fo, dn, ha, pa, bl, rd, rn, ce_obj (kc 3 (by decide) (by decide)) n0, ce_lng (kc 4 (by decide) (by decide)) n1, ce_int (kc 5 (by decide) (by decide)) n2, ce_int (kc 6 (by decide) (by decide)) n3, ce_int (kc 7 (by decide) (by decide)) n4, ce_int (kc 8 (by decide) (by decide)) n5, ce_lng (kc 9 (by decide) (by decide)) n6, ce_int (kc 10 (by decide) (by decide)) n7, ce_int (kc 11 (by decide) (by decide)) n8, ce_int (kc 12 (by decide) (by decide)) n9, z1, z2, z3, fun j hj => ?_, fun j hj => ?_⟩
    · rw [cp j (by omega), show 396 * 1 + j = 396 + j by omega, ag_hq A2 u5 _, ag_hq A1 v4 _]; exact z4 j hj
    · rw [cn j hj, show 15 * 1 + j = 15 + j by omega, ag_hq A2 u6 _, ag_hq A1 v5 _]; exact z5 j hj
  · obtain ⟨P, Dn, lw, cl, id, gl, bo, pn, ri, lf, wa, fo, dn, ha, pa, bl, rd, rn, h9, hx, n0, n1, n2, n3, n4, n5, n6, n7, n8, n9, z1, z2, z3, z4, z5⟩ := re1_13_110 G hlen a1 h hk hD
    obtain ⟨-, q⟩ := vi_inj (FR.det f1 hx)
    subst q
    have kc : ∀ a, 13 ≤ a → a ≤ 22 → Ceq hc hd a := fun a x y => ag_ce A2 (rng_at u3 (by omega) (by omega))
    refine Or.inr ⟨by rw [ag_off A2 u4 (by decide) (by decide), ag_off A1 v3 (by decide) (by decide)]; exact a1, by rw [ag_off A2 u4 (by decide) (by decide), ag_off A1 v3 (by decide) (by decide)]; exact a2, P, Dn, lw, cl, id, gl, bo, pn, ri, lf, wa, fo, dn, ha, pa, bl, rd, rn, ce_obj (kc 13 (by decide) (by decide)) n0, ce_lng (kc 14 (by decide) (by decide)) n1, ce_int (kc 15 (by decide) (by decide)) n2, ce_int (kc 16 (by decide) (by decide)) n3, ce_int (kc 17 (by decide) (by decide)) n4, ce_int (kc 18 (by decide) (by decide)) n5, ce_lng (kc 19 (by decide) (by decide)) n6, ce_int (kc 20 (by decide) (by decide)) n7, ce_int (kc 21 (by decide) (by decide)) n8, ce_int (kc 22 (by decide) (by decide)) n9, z1, z2, z3, fun j hj => ?_, fun j hj => ?_⟩
    · rw [cp j (by omega), show 396 * 1 + j = 396 + j by omega, ag_hq A2 u5 _, ag_hq A1 v4 _]; exact z4 j hj
    · rw [cn j hj, show 15 * 1 + j = 15 + j by omega, ag_hq A2 u6 _, ag_hq A1 v5 _]; exact z5 j hj
  · obtain ⟨P, Dn, lw, cl, id, gl, bo, pn, ri, lf, wa, fo, dn, ha, pa, bl, rd, rn, h9, hx, n0, n1, n2, n3, n4, n5, n6, n7, n8, n9, z1, z2, z3, z4, z5⟩ := re1_13_115 G hlen a1 h hk hD
    obtain ⟨-, q⟩ := vi_inj (FR.det f1 hx)
    subst q
    have kc : ∀ a, 13 ≤ a → a ≤ 22 → Ceq hc hd a := fun a x y => ag_ce A2 (rng_at u3 (by omega) (by omega))
    refine Or.inr ⟨by rw [ag_off A2 u4 (by decide) (by decide), ag_off A1 v3 (by decide) (by decide)]; exact a1, by rw [ag_off A2 u4 (by decide) (by decide), ag_off A1 v3 (by decide) (by decide)]; exact a2, P, Dn, lw, cl, id, gl, bo, pn, ri, lf, wa, fo, dn, ha, pa, bl, rd, rn, ce_obj (kc 13 (by decide) (by decide)) n0, ce_lng (kc 14 (by decide) (by decide)) n1, ce_int (kc 15 (by decide) (by decide)) n2, ce_int (kc 16 (by decide) (by decide)) n3, ce_int (kc 17 (by decide) (by decide)) n4, ce_int (kc 18 (by decide) (by decide)) n5, ce_lng (kc 19 (by decide) (by decide)) n6, ce_int (kc 20 (by decide) (by decide)) n7, ce_int (kc 21 (by decide) (by decide)) n8, ce_int (kc 22 (by decide) (by decide)) n9, z1, z2, z3, fun j hj => ?_, fun j hj => ?_⟩
    · rw [cp j (by omega), show 396 * 1 + j = 396 + j by omega, ag_hq A2 u5 _, ag_hq A1 v4 _]; exact z4 j hj
    · rw [cn j hj, show 15 * 1 + j = 15 + j by omega, ag_hq A2 u6 _, ag_hq A1 v5 _]; exact z5 j hj
