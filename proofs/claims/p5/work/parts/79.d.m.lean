section
/-! ===== image, restore keep the relation ===== -/
def cuW (W : WR) : Bool := (wr_not W 2 && wr_not W 181) && ((rng W 3 20 && wr_off W 0 1 2) && (wr_off W 182 0 100 && wr_not W 187))
theorem cu_keep {W : WR} {h0 h1 : List AE} (hA : Agr W h0 h1) (hw : cuW W = true) (h : TPH h0 ∧ CUR h0) : TPH h1 ∧ CUR h1 := by
  unfold cuW at hw
  simp only [Bool.and_eq_true] at hw
  obtain ⟨⟨w1, w2⟩, ⟨w3, w4⟩, w5, w6⟩ := hw
  exact ⟨tph_keep (ag_ce hA w1) (ag_ce hA w2) h.1, cur_keep (fun a x y => ag_ce hA (rng_at w3 x (by omega))) (ag_off hA w4 (by decide) (by decide)) (ag_off hA w4 (by decide) (by decide)) (fun j hj => ag_off hA w5 (by omega) (by omega)) (fun j hj => ag_hq hA w6 _) h.2⟩
theorem tp_keep2 {W : WR} {h0 h1 : List AE} (hA : Agr W h0 h1) (w : (wr_not W 2 && wr_not W 181) = true) (h : TPH h0) : TPH h1 := by
  rw [Bool.and_eq_true] at w
  exact tph_keep (ag_ce hA w.1) (ag_ce hA w.2) h
theorem se_two {hp : List AE} (G : hp_ok GG hp) : hq hp 0 7 = some (.ref 110) ∨ hq hp 0 7 = some (.ref 115) := by
  obtain ⟨d, s, se, ss, lt, fb, tq, gb, e0, -, -, h, -⟩ := oc_0 G
  rcases h with rfl | rfl
  · exact Or.inl ((hq_obj e0).trans rfl)
  · exact Or.inr ((hq_obj e0).trans rfl)
theorem wim_0 : cuW (cW (syt_im 0)) = true ∧ rng (cW (syt_im 0)) 133 10 = true ∧ wr_off (cW (syt_im 0)) 132 0 0 = true ∧ rng (cW (syt_im 0)) 157 10 = true ∧ wr_off (cW (syt_im 0)) 156 0 0 = true ∧ wr_off (cW (syt_im 0)) 184 396 496 = true ∧ wr_off (cW (syt_im 0)) 189 15 29 = true := by decide +kernel
theorem wim_1 : cuW (cW (syt_im 1)) = true ∧ rng (cW (syt_im 1)) 133 10 = true ∧ wr_off (cW (syt_im 1)) 132 0 0 = true ∧ rng (cW (syt_im 1)) 157 10 = true ∧ wr_off (cW (syt_im 1)) 156 0 0 = true ∧ wr_off (cW (syt_im 1)) 184 0 100 = true ∧ wr_off (cW (syt_im 1)) 189 0 14 = true := by decide +kernel
theorem wre : ∀ k, k < 2 → imW (cW (syt_re k)) = true ∧ (wr_not (cW (syt_re k)) 2 && wr_not (cW (syt_re k)) 181) = true ∧ rng (cW (syt_re k)) 3 20 = true ∧ wr_off (cW (syt_re k)) 0 1 2 = true ∧ wr_not (cW (syt_re k)) 184 = true ∧ wr_not (cW (syt_re k)) 189 = true := by decide +kernel
theorem dimg0 {hp hc hd : List AE} {V : WR} {r : Int32} {k1 : Nat} (G : hp_ok GG hp) (hlen : Nat.ble 204 hp.length = true) (D : DEEP hp) (f1 : FR k1 25 [.ref 0, .int (Int32.ofNat 0)] hp (some (.int r), hc)) (A1 : Agr V hp hc) (hv : (cuW V && (rng V 157 10 && wr_off V 156 0 0) && (wr_not V 184 && wr_not V 189)) = true) (A2 : Agr (cW (syt_im 0)) hc hd) (cp : ∀ j, j < 396 → hq hd 184 (396 * 0 + j) = hq hd 182 (0 + j)) (cn : ∀ j, j < 15 → hq hd 189 (15 * 0 + j) = hq hd 187 (0 + j)) : DEEP hd := by
  simp only [Bool.and_eq_true] at hv
  obtain ⟨⟨v1, v2, v3⟩, v4, v5⟩ := hv
  obtain ⟨u1, u2, u3, u4, u5, u6, u7⟩ := wim_0
  have t := cu_keep A2 u1 (cu_keep A1 v1 ⟨D.1, D.2.1⟩)
  have s : IM1 hd := im1_keep (fun a x y => ag_ce A2 (rng_at u4 x (by omega))) (ag_off A2 u5 (by decide) (by decide)) (fun j hj => ag_off A2 u6 (by omega) (by omega)) (fun j hj => ag_off A2 u7 (by omega) (by omega)) (im1_keep (fun a x y => ag_ce A1 (rng_at v2 x (by omega))) (ag_off A1 v3 (by decide) (by decide)) (fun j hj => ag_hq A1 v4 _) (fun j hj => ag_hq A1 v5 _) D.2.2.2)
  have w18 : cuW V = true := v1
  unfold cuW at v1
  simp only [Bool.and_eq_true] at v1
  obtain ⟨-, -, w5, w6⟩ := v1
  have y1 := u1
  unfold cuW at y1
  simp only [Bool.and_eq_true] at y1
  obtain ⟨-, -, y5, y6⟩ := y1
  refine ⟨t.1, t.2, fun _ => ?_, s⟩
  rcases D.2.1 with ⟨a1, a2, a3⟩ | ⟨a1, a2, a3⟩ <;> rcases se_two G with h | h
  · obtain ⟨P, Dn, lw, cl, id, gl, bo, pn, ri, lf, wa, fo, dn, ha, pa, bl, rd, rn, h9, hx, n0, n1, n2, n3, n4, n5, n6, n7, n8, n9, z1, z2, z3, z4, z5⟩ := im0_3_110 G hlen a1 h a3
    obtain ⟨-, q⟩ := vi_inj (FR.det f1 hx)
    subst q
    have kc : ∀ a, 133 ≤ a → a ≤ 142 → Ceq hc hd a := fun a x y => ag_ce A2 (rng_at u2 x (by omega))
    refine ⟨P, Dn, lw, cl, id, gl, bo, pn, ri, lf, wa, fo, dn, ha, pa, bl, rd, rn, ce_obj (kc 133 (by decide) (by decide)) n0, ce_lng (kc 134 (by decide) (by decide)) n1, ce_int (kc 135 (by decide) (by decide)) n2, ce_int (kc 136 (by decide) (by decide)) n3, ce_int (kc 137 (by decide) (by decide)) n4, ce_int (kc 138 (by decide) (by decide)) n5, ce_lng (kc 139 (by decide) (by decide)) n6, ce_int (kc 140 (by decide) (by decide)) n7, ce_int (kc 141 (by decide) (by decide)) n8, ce_int (kc 142 (by decide) (by decide)) n9, z1, z2, z3, fun j hj => ?_, fun j hj => ?_⟩
    · rw [show 0 + j = 396 * 0 + j by omega, cp j (by omega), ag_off A2 y5 (by omega) (by omega), ag_off A1 w5 (by omega) (by omega)]; exact z4 j hj
    · rw [show 0 + j = 15 * 0 + j by omega, cn j hj, ag_hq A2 y6 _, ag_hq A1 w6 _]; exact z5 j hj
  · obtain ⟨P, Dn, lw, cl, id, gl, bo, pn, ri, lf, wa, fo, dn, ha, pa, bl, rd, rn, h9, hx, n0, n1, n2, n3, n4, n5, n6, n7, n8, n9, z1, z2, z3, z4, z5⟩ := im0_3_115 G hlen a1 h a3
    obtain ⟨-, q⟩ := vi_inj (FR.det f1 hx)
    subst q
    have kc : ∀ a, 133 ≤ a → a ≤ 142 → Ceq hc hd a := fun a x y => ag_ce A2 (rng_at u2 x (by omega))
    refine ⟨P, Dn, lw, cl, id, gl, bo, pn, ri, lf, wa, fo, dn, ha, pa, bl, rd, rn, ce_obj (kc 133 (by decide) (by decide)) n0, ce_lng (kc 134 (by decide) (by decide)) n1, ce_int (kc 135 (by decide) (by decide)) n2, ce_int (kc 136 (by decide) (by decide)) n3, ce_int (kc 137 (by decide) (by decide)) n4, ce_int (kc 138 (by decide) (by decide)) n5, ce_lng (kc 139 (by decide) (by decide)) n6, ce_int (kc 140 (by decide) (by decide)) n7, ce_int (kc 141 (by decide) (by decide)) n8, ce_int (kc 142 (by decide) (by decide)) n9, z1, z2, z3, fun j hj => ?_, fun j hj => ?_⟩
    · rw [show 0 + j = 396 * 0 + j by omega, cp j (by omega), ag_off A2 y5 (by omega) (by omega), ag_off A1 w5 (by omega) (by omega)]; exact z4 j hj
    · rw [show 0 + j = 15 * 0 + j by omega, cn j hj, ag_hq A2 y6 _, ag_hq A1 w6 _]; exact z5 j hj
  · obtain ⟨P, Dn, lw, cl, id, gl, bo, pn, ri, lf, wa, fo, dn, ha, pa, bl, rd, rn, h9, hx, n0, n1, n2, n3, n4, n5, n6, n7, n8, n9, z1, z2, z3, z4, z5⟩ := im0_13_110 G hlen a1 h a3
    obtain ⟨-, q⟩ := vi_inj (FR.det f1 hx)
    subst q
    have kc : ∀ a, 133 ≤ a → a ≤ 142 → Ceq hc hd a := fun a x y => ag_ce A2 (rng_at u2 x (by omega))
    refine ⟨P, Dn, lw, cl, id, gl, bo, pn, ri, lf, wa, fo, dn, ha, pa, bl, rd, rn, ce_obj (kc 133 (by decide) (by decide)) n0, ce_lng (kc 134 (by decide) (by decide)) n1, ce_int (kc 135 (by decide) (by decide)) n2, ce_int (kc 136 (by decide) (by decide)) n3, ce_int (kc 137 (by decide) (by decide)) n4, ce_int (kc 138 (by decide) (by decide)) n5, ce_lng (kc 139 (by decide) (by decide)) n6, ce_int (kc 140 (by decide) (by decide)) n7, ce_int (kc 141 (by decide) (by decide)) n8, ce_int (kc 142 (by decide) (by decide)) n9, z1, z2, z3, fun j hj => ?_, fun j hj => ?_⟩
    · rw [show 0 + j = 396 * 0 + j by omega, cp j (by omega), ag_off A2 y5 (by omega) (by omega), ag_off A1 w5 (by omega) (by omega)]; exact z4 j hj
    · rw [show 0 + j = 15 * 0 + j by omega, cn j hj, ag_hq A2 y6 _, ag_hq A1 w6 _]; exact z5 j hj
  · obtain ⟨P, Dn, lw, cl, id, gl, bo, pn, ri, lf, wa, fo, dn, ha, pa, bl, rd, rn, h9, hx, n0, n1, n2, n3, n4, n5, n6, n7, n8, n9, z1, z2, z3, z4, z5⟩ := im0_13_115 G hlen a1 h a3
    obtain ⟨-, q⟩ := vi_inj (FR.det f1 hx)
    subst q
    have kc : ∀ a, 133 ≤ a → a ≤ 142 → Ceq hc hd a := fun a x y => ag_ce A2 (rng_at u2 x (by omega))
    refine ⟨P, Dn, lw, cl, id, gl, bo, pn, ri, lf, wa, fo, dn, ha, pa, bl, rd, rn, ce_obj (kc 133 (by decide) (by decide)) n0, ce_lng (kc 134 (by decide) (by decide)) n1, ce_int (kc 135 (by decide) (by decide)) n2, ce_int (kc 136 (by decide) (by decide)) n3, ce_int (kc 137 (by decide) (by decide)) n4, ce_int (kc 138 (by decide) (by decide)) n5, ce_lng (kc 139 (by decide) (by decide)) n6, ce_int (kc 140 (by decide) (by decide)) n7, ce_int (kc 141 (by decide) (by decide)) n8, ce_int (kc 142 (by decide) (by decide)) n9, z1, z2, z3, fun j hj => ?_, fun j hj => ?_⟩
    · rw [show 0 + j = 396 * 0 + j by omega, cp j (by omega), ag_off A2 y5 (by omega) (by omega), ag_off A1 w5 (by omega) (by omega)]; exact z4 j hj
    · rw [show 0 + j = 15 * 0 + j by omega, cn j hj, ag_hq A2 y6 _, ag_hq A1 w6 _]; exact z5 j hj
theorem drest0 {hp hc hd : List AE} {V : WR} {r : Int32} {k1 : Nat} (G : hp_ok GG hp) (hlen : Nat.ble 204 hp.length = true) (D : DEEP hp) (hk : hq hp 132 0 = some (.int 1)) (f1 : FR k1 35 [.ref 0, .int (Int32.ofNat 0)] hp (some (.int r), hc)) (A1 : Agr V hp hc) (hv : (imW V && (wr_not V 2 && wr_not V 181) && wr_off V 0 1 2 && (wr_not V 184 && wr_not V 189)) = true) (A2 : Agr (cW (syt_re 0)) hc hd) (cp : ∀ j, j < 396 → hq hd 182 (0 + j) = hq hd 184 (396 * 0 + j)) (cn : ∀ j, j < 15 → hq hd 187 (0 + j) = hq hd 189 (15 * 0 + j)) : DEEP hd := by
  rw [Bool.and_eq_true, Bool.and_eq_true, Bool.and_eq_true] at hv
  obtain ⟨⟨⟨v1, v2⟩, v3⟩, v4⟩ := hv
  rw [Bool.and_eq_true] at v4
  obtain ⟨v4, v5⟩ := v4
  obtain ⟨u1, u2, u3, u4, u5, u6⟩ := wre 0 (by decide)
  have s := ims_keep A2 u1 (ims_keep A1 v1 D.2.2)
  have hD := D.2.2.1 hk
  refine ⟨tp_keep2 A2 u2 (tp_keep2 A1 v2 D.1), ?_, s⟩
  rcases D.2.1 with ⟨a1, a2, a3⟩ | ⟨a1, a2, a3⟩ <;> rcases se_two G with h | h
  · obtain ⟨P, Dn, lw, cl, id, gl, bo, pn, ri, lf, wa, fo, dn, ha, pa, bl, rd, rn, h9, hx, n0, n1, n2, n3, n4, n5, n6, n7, n8, n9, z1, z2, z3, z4, z5⟩ := re0_3_110 G hlen a1 h hk hD
    obtain ⟨-, q⟩ := vi_inj (FR.det f1 hx)
    subst q
    have kc : ∀ a, 3 ≤ a → a ≤ 12 → Ceq hc hd a := fun a x y => ag_ce A2 (rng_at u3 (by omega) (by omega))
    refine Or.inl ⟨by rw [ag_off A2 u4 (by decide) (by decide), ag_off A1 v3 (by decide) (by decide)]; exact a1, by rw [ag_off A2 u4 (by decide) (by decide), ag_off A1 v3 (by decide) (by decide)]; exact a2, P, Dn, lw, cl, id, gl, bo, pn, ri, lf, wa, fo, dn, ha, pa, bl, rd, rn, ce_obj (kc 3 (by decide) (by decide)) n0, ce_lng (kc 4 (by decide) (by decide)) n1, ce_int (kc 5 (by decide) (by decide)) n2, ce_int (kc 6 (by decide) (by decide)) n3, ce_int (kc 7 (by decide) (by decide)) n4, ce_int (kc 8 (by decide) (by decide)) n5, ce_lng (kc 9 (by decide) (by decide)) n6, ce_int (kc 10 (by decide) (by decide)) n7, ce_int (kc 11 (by decide) (by decide)) n8, ce_int (kc 12 (by decide) (by decide)) n9, z1, z2, z3, fun j hj => ?_, fun j hj => ?_⟩
    · rw [cp j (by omega), show 396 * 0 + j = 0 + j by omega, ag_hq A2 u5 _, ag_hq A1 v4 _]; exact z4 j hj
    · rw [cn j hj, show 15 * 0 + j = 0 + j by omega, ag_hq A2 u6 _, ag_hq A1 v5 _]; exact z5 j hj
  · obtain ⟨P, Dn, lw, cl, id, gl, bo, pn, ri, lf, wa, fo, dn, ha, pa, bl, rd, rn, h9, hx, n0, n1, n2, n3, n4, n5, n6, n7, n8, n9, z1, z2, z3, z4, z5⟩ := re0_3_115 G hlen a1 h hk hD
    obtain ⟨-, q⟩ := vi_inj (FR.det f1 hx)
    subst q
    have kc : ∀ a, 3 ≤ a → a ≤ 12 → Ceq hc hd a := fun a x y => ag_ce A2 (rng_at u3 (by omega) (by omega))
    refine Or.inl ⟨by rw [ag_off A2 u4 (by decide) (by decide), ag_off A1 v3 (by decide) (by decide)]; exact a1, by rw [ag_off A2 u4 (by decide) (by decide), ag_off A1 v3 (by decide) (by decide)]; exact a2, P, Dn, lw, cl, id, gl, bo, pn, ri, lf, wa, fo, dn, ha, pa, bl, rd, rn, ce_obj (kc 3 (by decide) (by decide)) n0, ce_lng (kc 4 (by decide) (by decide)) n1, ce_int (kc 5 (by decide) (by decide)) n2, ce_int (kc 6 (by decide) (by decide)) n3, ce_int (kc 7 (by decide) (by decide)) n4, ce_int (kc 8 (by decide) (by decide)) n5, ce_lng (kc 9 (by decide) (by decide)) n6, ce_int (kc 10 (by decide) (by decide)) n7, ce_int (kc 11 (by decide) (by decide)) n8, ce_int (kc 12 (by decide) (by decide)) n9, z1, z2, z3, fun j hj => ?_, fun j hj => ?_⟩
    · rw [cp j (by omega), show 396 * 0 + j = 0 + j by omega, ag_hq A2 u5 _, ag_hq A1 v4 _]; exact z4 j hj
    · rw [cn j hj, show 15 * 0 + j = 0 + j by omega, ag_hq A2 u6 _, ag_hq A1 v5 _]; exact z5 j hj
  · obtain ⟨P, Dn, lw, cl, id, gl, bo, pn, ri, lf, wa, fo, dn, ha, pa, bl, rd, rn, h9, hx, n0, n1, n2, n3, n4, n5, n6, n7, n8, n9, z1, z2, z3, z4, z5⟩ := re0_13_110 G hlen a1 h hk hD
    obtain ⟨-, q⟩ := vi_inj (FR.det f1 hx)
    subst q
    have kc : ∀ a, 13 ≤ a → a ≤ 22 → Ceq hc hd a := fun a x y => ag_ce A2 (rng_at u3 (by omega) (by omega))
    refine Or.inr ⟨by rw [ag_off A2 u4 (by decide) (by decide), ag_off A1 v3 (by decide) (by decide)]; exact a1, by rw [ag_off A2 u4 (by decide) (by decide), ag_off A1 v3 (by decide) (by decide)]; exact a2, P, Dn, lw, cl, id, gl, bo, pn, ri, lf, wa, fo, dn, ha, pa, bl, rd, rn, ce_obj (kc 13 (by decide) (by decide)) n0, ce_lng (kc 14 (by decide) (by decide)) n1, ce_int (kc 15 (by decide) (by decide)) n2, ce_int (kc 16 (by decide) (by decide)) n3, ce_int (kc 17 (by decide) (by decide)) n4, ce_int (kc 18 (by decide) (by decide)) n5, ce_lng (kc 19 (by decide) (by decide)) n6, ce_int (kc 20 (by decide) (by decide)) n7, ce_int (kc 21 (by decide) (by decide)) n8, ce_int (kc 22 (by decide) (by decide)) n9, z1, z2, z3, fun j hj => ?_, fun j hj => ?_⟩
    · rw [cp j (by omega), show 396 * 0 + j = 0 + j by omega, ag_hq A2 u5 _, ag_hq A1 v4 _]; exact z4 j hj
    · rw [cn j hj, show 15 * 0 + j = 0 + j by omega, ag_hq A2 u6 _, ag_hq A1 v5 _]; exact z5 j hj
  · obtain ⟨P, Dn, lw, cl, id, gl, bo, pn, ri, lf, wa, fo, dn, ha, pa, bl, rd, rn, h9, hx, n0, n1, n2, n3, n4, n5, n6, n7, n8, n9, z1, z2, z3, z4, z5⟩ := re0_13_115 G hlen a1 h hk hD
    obtain ⟨-, q⟩ := vi_inj (FR.det f1 hx)
    subst q
    have kc : ∀ a, 13 ≤ a → a ≤ 22 → Ceq hc hd a := fun a x y => ag_ce A2 (rng_at u3 (by omega) (by omega))
    refine Or.inr ⟨by rw [ag_off A2 u4 (by decide) (by decide), ag_off A1 v3 (by decide) (by decide)]; exact a1, by rw [ag_off A2 u4 (by decide) (by decide), ag_off A1 v3 (by decide) (by decide)]; exact a2, P, Dn, lw, cl, id, gl, bo, pn, ri, lf, wa, fo, dn, ha, pa, bl, rd, rn, ce_obj (kc 13 (by decide) (by decide)) n0, ce_lng (kc 14 (by decide) (by decide)) n1, ce_int (kc 15 (by decide) (by decide)) n2, ce_int (kc 16 (by decide) (by decide)) n3, ce_int (kc 17 (by decide) (by decide)) n4, ce_int (kc 18 (by decide) (by decide)) n5, ce_lng (kc 19 (by decide) (by decide)) n6, ce_int (kc 20 (by decide) (by decide)) n7, ce_int (kc 21 (by decide) (by decide)) n8, ce_int (kc 22 (by decide) (by decide)) n9, z1, z2, z3, fun j hj => ?_, fun j hj => ?_⟩
    · rw [cp j (by omega), show 396 * 0 + j = 0 + j by omega, ag_hq A2 u5 _, ag_hq A1 v4 _]; exact z4 j hj
    · rw [cn j hj, show 15 * 0 + j = 0 + j by omega, ag_hq A2 u6 _, ag_hq A1 v5 _]; exact z5 j hj
theorem dimg1 {hp hc hd : List AE} {V : WR} {r : Int32} {k1 : Nat} (G : hp_ok GG hp) (hlen : Nat.ble 204 hp.length = true) (D : DEEP hp) (f1 : FR k1 25 [.ref 0, .int (Int32.ofNat 1)] hp (some (.int r), hc)) (A1 : Agr V hp hc) (hv : (cuW V && (rng V 133 10 && wr_off V 132 0 0) && (wr_not V 184 && wr_not V 189)) = true) (A2 : Agr (cW (syt_im 1)) hc hd) (cp : ∀ j, j < 396 → hq hd 184 (396 * 1 + j) = hq hd 182 (0 + j)) (cn : ∀ j, j < 15 → hq hd 189 (15 * 1 + j) = hq hd 187 (0 + j)) : DEEP hd := by
  simp only [Bool.and_eq_true] at hv
  obtain ⟨⟨v1, v2, v3⟩, v4, v5⟩ := hv
  obtain ⟨u1, u2, u3, u4, u5, u6, u7⟩ := wim_1
  have t := cu_keep A2 u1 (cu_keep A1 v1 ⟨D.1, D.2.1⟩)
  have s : IM0 hd := im0_keep (fun a x y => ag_ce A2 (rng_at u2 x (by omega))) (ag_off A2 u3 (by decide) (by decide)) (fun j hj => ag_off A2 u6 (by omega) (by omega)) (fun j hj => ag_off A2 u7 (by omega) (by omega)) (im0_keep (fun a x y => ag_ce A1 (rng_at v2 x (by omega))) (ag_off A1 v3 (by decide) (by decide)) (fun j hj => ag_hq A1 v4 _) (fun j hj => ag_hq A1 v5 _) D.2.2.1)
  have w18 : cuW V = true := v1
  unfold cuW at v1
  simp only [Bool.and_eq_true] at v1
  obtain ⟨-, -, w5, w6⟩ := v1
  have y1 := u1
  unfold cuW at y1
  simp only [Bool.and_eq_true] at y1
  obtain ⟨-, -, y5, y6⟩ := y1
  refine ⟨t.1, t.2, s, fun _ => ?_⟩
  rcases D.2.1 with ⟨a1, a2, a3⟩ | ⟨a1, a2, a3⟩ <;> rcases se_two G with h | h
  · obtain ⟨P, Dn, lw, cl, id, gl, bo, pn, ri, lf, wa, fo, dn, ha, pa, bl, rd, rn, h9, hx, n0, n1, n2, n3, n4, n5, n6, n7, n8, n9, z1, z2, z3, z4, z5⟩ := im1_3_110 G hlen a1 h a3
    obtain ⟨-, q⟩ := vi_inj (FR.det f1 hx)
    subst q
    have kc : ∀ a, 157 ≤ a → a ≤ 166 → Ceq hc hd a := fun a x y => ag_ce A2 (rng_at u4 x (by omega))
    refine ⟨P, Dn, lw, cl, id, gl, bo, pn, ri, lf, wa, fo, dn, ha, pa, bl, rd, rn, ce_obj (kc 157 (by decide) (by decide)) n0, ce_lng (kc 158 (by decide) (by decide)) n1, ce_int (kc 159 (by decide) (by decide)) n2, ce_int (kc 160 (by decide) (by decide)) n3, ce_int (kc 161 (by decide) (by decide)) n4, ce_int (kc 162 (by decide) (by decide)) n5, ce_lng (kc 163 (by decide) (by decide)) n6, ce_int (kc 164 (by decide) (by decide)) n7, ce_int (kc 165 (by decide) (by decide)) n8, ce_int (kc 166 (by decide) (by decide)) n9, z1, z2, z3, fun j hj => ?_, fun j hj => ?_⟩
    · rw [show 396 + j = 396 * 1 + j by omega, cp j (by omega), ag_off A2 y5 (by omega) (by omega), ag_off A1 w5 (by omega) (by omega)]; exact z4 j hj
    · rw [show 15 + j = 15 * 1 + j by omega, cn j hj, ag_hq A2 y6 _, ag_hq A1 w6 _]; exact z5 j hj
  · obtain ⟨P, Dn, lw, cl, id, gl, bo, pn, ri, lf, wa, fo, dn, ha, pa, bl, rd, rn, h9, hx, n0, n1, n2, n3, n4, n5, n6, n7, n8, n9, z1, z2, z3, z4, z5⟩ := im1_3_115 G hlen a1 h a3
    obtain ⟨-, q⟩ := vi_inj (FR.det f1 hx)
    subst q
    have kc : ∀ a, 157 ≤ a → a ≤ 166 → Ceq hc hd a := fun a x y => ag_ce A2 (rng_at u4 x (by omega))
    refine ⟨P, Dn, lw, cl, id, gl, bo, pn, ri, lf, wa, fo, dn, ha, pa, bl, rd, rn, ce_obj (kc 157 (by decide) (by decide)) n0, ce_lng (kc 158 (by decide) (by decide)) n1, ce_int (kc 159 (by decide) (by decide)) n2, ce_int (kc 160 (by decide) (by decide)) n3, ce_int (kc 161 (by decide) (by decide)) n4, ce_int (kc 162 (by decide) (by decide)) n5, ce_lng (kc 163 (by decide) (by decide)) n6, ce_int (kc 164 (by decide) (by decide)) n7, ce_int (kc 165 (by decide) (by decide)) n8, ce_int (kc 166 (by decide) (by decide)) n9, z1, z2, z3, fun j hj => ?_, fun j hj => ?_⟩
    · rw [show 396 + j = 396 * 1 + j by omega, cp j (by omega), ag_off A2 y5 (by omega) (by omega), ag_off A1 w5 (by omega) (by omega)]; exact z4 j hj
    · rw [show 15 + j = 15 * 1 + j by omega, cn j hj, ag_hq A2 y6 _, ag_hq A1 w6 _]; exact z5 j hj
  · obtain ⟨P, Dn, lw, cl, id, gl, bo, pn, ri, lf, wa, fo, dn, ha, pa, bl, rd, rn, h9, hx, n0, n1, n2, n3, n4, n5, n6, n7, n8, n9, z1, z2, z3, z4, z5⟩ := im1_13_110 G hlen a1 h a3
    obtain ⟨-, q⟩ := vi_inj (FR.det f1 hx)
    subst q
    have kc : ∀ a, 157 ≤ a → a ≤ 166 → Ceq hc hd a := fun a x y => ag_ce A2 (rng_at u4 x (by omega))
    refine ⟨P, Dn, lw, cl, id, gl, bo, pn, ri, lf, wa, fo, dn, ha, pa, bl, rd, rn, ce_obj (kc 157 (by decide) (by decide)) n0, ce_lng (kc 158 (by decide) (by decide)) n1, ce_int (kc 159 (by decide) (by decide)) n2, ce_int (kc 160 (by decide) (by decide)) n3, ce_int (kc 161 (by decide) (by decide)) n4, ce_int (kc 162 (by decide) (by decide)) n5, ce_lng (kc 163 (by decide) (by decide)) n6, ce_int (kc 164 (by decide) (by decide)) n7, ce_int (kc 165 (by decide) (by decide)) n8, ce_int (kc 166 (by decide) (by decide)) n9, z1, z2, z3, fun j hj => ?_, fun j hj => ?_⟩
    · rw [show 396 + j = 396 * 1 + j by omega, cp j (by omega), ag_off A2 y5 (by omega) (by omega), ag_off A1 w5 (by omega) (by omega)]; exact z4 j hj
    · rw [show 15 + j = 15 * 1 + j by omega, cn j hj, ag_hq A2 y6 _, ag_hq A1 w6 _]; exact z5 j hj
  · obtain ⟨P, Dn, lw, cl, id, gl, bo, pn, ri, lf, wa, fo, dn, ha, pa, bl, rd, rn, h9, hx, n0, n1, n2, n3, n4, n5, n6, n7, n8, n9, z1, z2, z3, z4, z5⟩ := im1_13_115 G hlen a1 h a3
    obtain ⟨-, q⟩ := vi_inj (FR.det f1 hx)
    subst q
    have kc : ∀ a, 157 ≤ a → a ≤ 166 → Ceq hc hd a := fun a x y => ag_ce A2 (rng_at u4 x (by omega))
    refine ⟨P, Dn, lw, cl, id, gl, bo, pn, ri, lf, wa, fo, dn, ha, pa, bl, rd, rn, ce_obj (kc 157 (by decide) (by decide)) n0, ce_lng (kc 158 (by decide) (by decide)) n1, ce_int (kc 159 (by decide) (by decide)) n2, ce_int (kc 160 (by decide) (by decide)) n3, ce_int (kc 161 (by decide) (by decide)) n4, ce_int (kc 162 (by decide) (by decide)) n5, ce_lng (kc 163 (by decide) (by decide)) n6, ce_int (kc 164 (by decide) (by decide)) n7, ce_int (kc 165 (by decide) (by decide)) n8, ce_int (kc 166 (by decide) (by decide)) n9, z1, z2, z3, fun j hj => ?_, fun j hj => ?_⟩
    · rw [show 396 + j = 396 * 1 + j by omega, cp j (by omega), ag_off A2 y5 (by omega) (by omega), ag_off A1 w5 (by omega) (by omega)]; exact z4 j hj
    · rw [show 15 + j = 15 * 1 + j by omega, cn j hj, ag_hq A2 y6 _, ag_hq A1 w6 _]; exact z5 j hj
theorem drest1 {hp hc hd : List AE} {V : WR} {r : Int32} {k1 : Nat} (G : hp_ok GG hp) (hlen : Nat.ble 204 hp.length = true) (D : DEEP hp) (hk : hq hp 156 0 = some (.int 1)) (f1 : FR k1 35 [.ref 0, .int (Int32.ofNat 1)] hp (some (.int r), hc)) (A1 : Agr V hp hc) (hv : (imW V && (wr_not V 2 && wr_not V 181) && wr_off V 0 1 2 && (wr_not V 184 && wr_not V 189)) = true) (A2 : Agr (cW (syt_re 1)) hc hd) (cp : ∀ j, j < 396 → hq hd 182 (0 + j) = hq hd 184 (396 * 1 + j)) (cn : ∀ j, j < 15 → hq hd 187 (0 + j) = hq hd 189 (15 * 1 + j)) : DEEP hd := by
  rw [Bool.and_eq_true, Bool.and_eq_true, Bool.and_eq_true] at hv
  obtain ⟨⟨⟨v1, v2⟩, v3⟩, v4⟩ := hv
  rw [Bool.and_eq_true] at v4
  obtain ⟨v4, v5⟩ := v4
  obtain ⟨u1, u2, u3, u4, u5, u6⟩ := wre 1 (by decide)
  have s := ims_keep A2 u1 (ims_keep A1 v1 D.2.2)
  have hD := D.2.2.2 hk
  refine ⟨tp_keep2 A2 u2 (tp_keep2 A1 v2 D.1), ?_, s⟩
  rcases D.2.1 with ⟨a1, a2, a3⟩ | ⟨a1, a2, a3⟩ <;> rcases se_two G with h | h
  · obtain ⟨P, Dn, lw, cl, id, gl, bo, pn, ri, lf, wa, fo, dn, ha, pa, bl, rd, rn, h9, hx, n0, n1, n2, n3, n4, n5, n6, n7, n8, n9, z1, z2, z3, z4, z5⟩ := re1_3_110 G hlen a1 h hk hD
    obtain ⟨-, q⟩ := vi_inj (FR.det f1 hx)
    subst q
    have kc : ∀ a, 3 ≤ a → a ≤ 12 → Ceq hc hd a := fun a x y => ag_ce A2 (rng_at u3 (by omega) (by omega))
    refine Or.inl ⟨by rw [ag_off A2 u4 (by decide) (by decide), ag_off A1 v3 (by decide) (by decide)]; exact a1, by rw [ag_off A2 u4 (by decide) (by decide), ag_off A1 v3 (by decide) (by decide)]; exact a2, P, Dn, lw, cl, id, gl, bo, pn, ri, lf, wa, fo, dn, ha, pa, bl, rd, rn, ce_obj (kc 3 (by decide) (by decide)) n0, ce_lng (kc 4 (by decide) (by decide)) n1, ce_int (kc 5 (by decide) (by decide)) n2, ce_int (kc 6 (by decide) (by decide)) n3, ce_int (kc 7 (by decide) (by decide)) n4, ce_int (kc 8 (by decide) (by decide)) n5, ce_lng (kc 9 (by decide) (by decide)) n6, ce_int (kc 10 (by decide) (by decide)) n7, ce_int (kc 11 (by decide) (by decide)) n8, ce_int (kc 12 (by decide) (by decide)) n9, z1, z2, z3, fun j hj => ?_, fun j hj => ?_⟩
    · rw [cp j (by omega), show 396 * 1 + j = 396 + j by omega, ag_hq A2 u5 _, ag_hq A1 v4 _]; exact z4 j hj
    · rw [cn j hj, show 15 * 1 + j = 15 + j by omega, ag_hq A2 u6 _, ag_hq A1 v5 _]; exact z5 j hj
  · obtain ⟨P, Dn, lw, cl, id, gl, bo, pn, ri, lf, wa, fo, dn, ha, pa, bl, rd, rn, h9, hx, n0, n1, n2, n3, n4, n5, n6, n7, n8, n9, z1, z2, z3, z4, z5⟩ := re1_3_115 G hlen a1 h hk hD
    obtain ⟨-, q⟩ := vi_inj (FR.det f1 hx)
    subst q
    have kc : ∀ a, 3 ≤ a → a ≤ 12 → Ceq hc hd a := fun a x y => ag_ce A2 (rng_at u3 (by omega) (by omega))
    refine Or.inl ⟨by rw [ag_off A2 u4 (by decide) (by decide), ag_off A1 v3 (by decide) (by decide)]; exact a1, by rw [ag_off A2 u4 (by decide) (by decide), ag_off A1 v3 (by decide) (by decide)]; exact a2, P, Dn, lw, cl, id, gl, bo, pn, ri, lf, wa, fo, dn, ha, pa, bl, rd, rn, ce_obj (kc 3 (by decide) (by decide)) n0, ce_lng (kc 4 (by decide) (by decide)) n1, ce_int (kc 5 (by decide) (by decide)) n2, ce_int (kc 6 (by decide) (by decide)) n3, ce_int (kc 7 (by decide) (by decide)) n4, ce_int (kc 8 (by decide) (by decide)) n5, ce_lng (kc 9 (by decide) (by decide)) n6, ce_int (kc 10 (by decide) (by decide)) n7, ce_int (kc 11 (by decide) (by decide)) n8, ce_int (kc 12 (by decide) (by decide)) n9, z1, z2, z3, fun j hj => ?_, fun j hj => ?_⟩
    · rw [cp j (by omega), show 396 * 1 + j = 396 + j by omega, ag_hq A2 u5 _, ag_hq A1 v4 _]; exact z4 j hj
    · rw [cn j hj, show 15 * 1 + j = 15 + j by omega, ag_hq A2 u6 _, ag_hq A1 v5 _]; exact z5 j hj
  · obtain ⟨P, Dn, lw, cl, id, gl, bo, pn, ri, lf, wa, fo, dn, ha, pa, bl, rd, rn, h9, hx, n0, n1, n2, n3, n4, n5, n6, n7, n8, n9, z1, z2, z3, z4, z5⟩ := re1_13_110 G hlen a1 h hk hD
    obtain ⟨-, q⟩ := vi_inj (FR.det f1 hx)
    subst q
    have kc : ∀ a, 13 ≤ a → a ≤ 22 → Ceq hc hd a := fun a x y => ag_ce A2 (rng_at u3 (by omega) (by omega))
    refine Or.inr ⟨by rw [ag_off A2 u4 (by decide) (by decide), ag_off A1 v3 (by decide) (by decide)]; exact a1, by rw [ag_off A2 u4 (by decide) (by decide), ag_off A1 v3 (by decide) (by decide)]; exact a2, P, Dn, lw, cl, id, gl, bo, pn, ri, lf, wa, fo, dn, ha, pa, bl, rd, rn, ce_obj (kc 13 (by decide) (by decide)) n0, ce_lng (kc 14 (by decide) (by decide)) n1, ce_int (kc 15 (by decide) (by decide)) n2, ce_int (kc 16 (by decide) (by decide)) n3, ce_int (kc 17 (by decide) (by decide)) n4, ce_int (kc 18 (by decide) (by decide)) n5, ce_lng (kc 19 (by decide) (by decide)) n6, ce_int (kc 20 (by decide) (by decide)) n7, ce_int (kc 21 (by decide) (by decide)) n8, ce_int (kc 22 (by decide) (by decide)) n9, z1, z2, z3, fun j hj => ?_, fun j hj => ?_⟩
    · rw [cp j (by omega), show 396 * 1 + j = 396 + j by omega, ag_hq A2 u5 _, ag_hq A1 v4 _]; exact z4 j hj
    · rw [cn j hj, show 15 * 1 + j = 15 + j by omega, ag_hq A2 u6 _, ag_hq A1 v5 _]; exact z5 j hj
  · obtain ⟨P, Dn, lw, cl, id, gl, bo, pn, ri, lf, wa, fo, dn, ha, pa, bl, rd, rn, h9, hx, n0, n1, n2, n3, n4, n5, n6, n7, n8, n9, z1, z2, z3, z4, z5⟩ := re1_13_115 G hlen a1 h hk hD
    obtain ⟨-, q⟩ := vi_inj (FR.det f1 hx)
    subst q
    have kc : ∀ a, 13 ≤ a → a ≤ 22 → Ceq hc hd a := fun a x y => ag_ce A2 (rng_at u3 (by omega) (by omega))
    refine Or.inr ⟨by rw [ag_off A2 u4 (by decide) (by decide), ag_off A1 v3 (by decide) (by decide)]; exact a1, by rw [ag_off A2 u4 (by decide) (by decide), ag_off A1 v3 (by decide) (by decide)]; exact a2, P, Dn, lw, cl, id, gl, bo, pn, ri, lf, wa, fo, dn, ha, pa, bl, rd, rn, ce_obj (kc 13 (by decide) (by decide)) n0, ce_lng (kc 14 (by decide) (by decide)) n1, ce_int (kc 15 (by decide) (by decide)) n2, ce_int (kc 16 (by decide) (by decide)) n3, ce_int (kc 17 (by decide) (by decide)) n4, ce_int (kc 18 (by decide) (by decide)) n5, ce_lng (kc 19 (by decide) (by decide)) n6, ce_int (kc 20 (by decide) (by decide)) n7, ce_int (kc 21 (by decide) (by decide)) n8, ce_int (kc 22 (by decide) (by decide)) n9, z1, z2, z3, fun j hj => ?_, fun j hj => ?_⟩
    · rw [cp j (by omega), show 396 * 1 + j = 396 + j by omega, ag_hq A2 u5 _, ag_hq A1 v4 _]; exact z4 j hj
    · rw [cn j hj, show 15 * 1 + j = 15 + j by omega, ag_hq A2 u6 _, ag_hq A1 v5 _]; exact z5 j hj
end
section
/-! ===== duchy, image, restore, feed: both sides keep the relation ===== -/
theorem sd_runQF {mi k : Nat} {As : List Value} {hp : List AE} {Q : ev_R → Prop} (h : ∃ q : ev_R, (∃ N, ∀ F, N ≤ F → ∀ d, k ≤ d → evF F MM d mi As hp = some q) ∧ Q q) (l : Launch) (b : Nat) (en ac : Nat → Nat) (D : va_G) (hd : k ≤ 100) (ho : plainName (mY MM mi).cls = true) : ∃ q : ev_R, ev_M l b en ac D MM 100 mi As hp q ∧ FR k mi As hp q ∧ Q q := by
  obtain ⟨q, ⟨N, hN⟩, hQ⟩ := h
  exact ⟨q, (evF_ok l b en ac D N MM_val MM_abs 100 _ _ _ _ (hN N (Nat.le_refl _) 100 hd)).1 ho, ⟨N, hN⟩, hQ⟩
set_option maxRecDepth 100000 in
/-- duchy -/
theorem op_duchy (l : Launch) (b : Nat) (en ac : Nat → Nat) (D : va_G) {hp : List AE} (I : LInv hp) (X : XX hp) : OpE l b en ac D 14 195 [] hp := by
  obtain ⟨r, hc, m1, e1, f1⟩ := sd_runF sypc_2241 l b en ac D (ρ := 0 :: ([] : List Int32).map (fun z => z.toInt)) (As := .ref 0 :: []) (en_full []) ⟨rfl, trivial⟩ (fun q hq => absurd hq List.not_mem_nil) I.1 (Nat.le_of_ble_eq_true rfl) (by decide +kernel)
  obtain ⟨⟨q1, hd⟩, m2, f2, ⟨r2, hr⟩, A2, G2, z2, R2⟩ := sd_runQF (du_run e1.2.1) l b en ac D (Nat.le_of_ble_eq_true rfl) (by decide +kernel)
  have hr : q1 = some (.int r2) := hr
  subst hr
  have LI : LInv hd := by
    refine li_take I e1.1 (by decide +kernel) A2 G2 (fun R => ⟨R2 R.1, ?_, ?_⟩) (by decide +kernel) (out0_ok (C := sypt_2241) (by decide +kernel) e1) z2
    · exact rr_cp (fun i a1 a2 => ag_off A2 (lo := 0) (hi := 791) (by decide +kernel) (by omega) (by omega)) R.2.1
    · exact rr_cp (fun i a1 a2 => ag_off A2 (lo := 0) (hi := 791) (by decide +kernel) (by omega) (by omega)) R.2.2
  obtain ⟨er, hT, hC, hF⟩ := ddu I.1 (li_len I) X.2.1 I.2.1 f1 f2
  exact op_mkE m1 m2 (congrArg Int32.toInt er) LI I.1 e1.2.1 (fun _ => ⟨xx0_keep A2 (by decide +kernel) (xx0_keep e1.1 (by decide +kernel) X.1), ⟨hT, hC, ims_keep A2 (by decide +kernel) (ims_keep e1.1 (by decide +kernel) X.2.1.2.2)⟩, hF⟩)
/-! ===== image, restore: the same answers ===== -/
set_option maxRecDepth 100000 in
/-- image -/
theorem op_image (l : Launch) (b : Nat) (en ac : Nat → Nat) (D : va_G) {hp : List AE} (I : LInv hp) (X : XX hp) (z1 : Int32) : OpE l b en ac D 25 212 [.int z1] hp := by
  have a1 := i32_lo z1
  have a2 := i32_hi z1
  by_cases h1 : z1.toInt < 0
  · obtain ⟨r, hc, m1, e1⟩ := sd_run sypc_2593 l b en ac D (As := .ref 0 :: [.int z1]) (en_one (z := z1.toInt) (by omega) (by omega)) ⟨rfl, sv_i rfl, trivial⟩ (fun q hq => absurd hq List.not_mem_nil) I.1 (Nat.le_of_ble_eq_true rfl) (by decide +kernel)
    have I1 := li_quiet I e1.1 e1.2.1 (by decide +kernel)
    obtain ⟨r2, hd, m2, e2⟩ := sd_run sypc_2585 l b en ac D (As := .ref 180 :: [.int z1]) (en_one (z := z1.toInt) (by omega) (by omega)) ⟨rfl, sv_i rfl, trivial⟩ (fun q hq => absurd hq List.not_mem_nil) I1.1 (Nat.le_of_ble_eq_true rfl) (by decide +kernel)
    exact op_mkE m1 m2 ((end_k (v := 0) (by decide +kernel) e2).trans (end_k (v := 0) (by decide +kernel) e1).symm) (li_quiet I1 e2.1 e2.2.1 (by decide +kernel)) I.1 I1.1 (xx_two e1.1 (by decide +kernel) e2.1 (by decide +kernel))
  · by_cases h2 : 1 < z1.toInt
    · obtain ⟨r, hc, m1, e1⟩ := sd_run sypc_2594 l b en ac D (As := .ref 0 :: [.int z1]) (en_one (z := z1.toInt) (by omega) (by omega)) ⟨rfl, sv_i rfl, trivial⟩ (fun q hq => absurd hq List.not_mem_nil) I.1 (Nat.le_of_ble_eq_true rfl) (by decide +kernel)
      have I1 := li_quiet I e1.1 e1.2.1 (by decide +kernel)
      obtain ⟨r2, hd, m2, e2⟩ := sd_run sypc_2586 l b en ac D (As := .ref 180 :: [.int z1]) (en_one (z := z1.toInt) (by omega) (by omega)) ⟨rfl, sv_i rfl, trivial⟩ (fun q hq => absurd hq List.not_mem_nil) I1.1 (Nat.le_of_ble_eq_true rfl) (by decide +kernel)
      exact op_mkE m1 m2 ((end_k (v := 0) (by decide +kernel) e2).trans (end_k (v := 0) (by decide +kernel) e1).symm) (li_quiet I1 e2.1 e2.2.1 (by decide +kernel)) I.1 I1.1 (xx_two e1.1 (by decide +kernel) e2.1 (by decide +kernel))
    · by_cases h3 : z1.toInt = 0
      · have h4 : z1.toInt = ((0 : Nat) : Int) := by omega
        have hz : z1 = Int32.ofNat 0 := Int32.toInt_inj.mp (by rw [n_int (by decide)]; exact h4)
        obtain ⟨r, hc, m1, e1, f1⟩ := sd_runF sypc_2601 l b en ac D (ρ := [0]) (As := .ref 0 :: [.int z1]) (en_full []) ⟨rfl, ⟨z1, 0, rfl, rfl, by omega⟩, trivial⟩ (fun q hq => absurd hq List.not_mem_nil) I.1 (Nat.le_of_ble_eq_true rfl) (by decide +kernel)
        have f1 : FR 3 25 [.ref 0, .int z1] hp (some (.int r), hc) := f1
        rw [hz] at f1
        have I1 := li_quiet I e1.1 e1.2.1 (by decide +kernel)
        obtain ⟨zt, y1, y2⟩ := I1.2.1
        obtain ⟨x, x1, x2⟩ := outV_ok (a := 132) (i := 0) (v := 1) (by decide +kernel) e1
        have x3 : x = 1 := Int32.toInt_inj.mp (x2.trans (show (1 : Int) = (1 : Int32).toInt from rfl))
        subst x3
        have x1 : hq hc 132 0 = some (.int 1) := x1
        obtain ⟨⟨q1, hd⟩, m2, hr, A2, G2, cp, kp, cn⟩ := sd_runQ (im_run (k := 0) (by decide) I1.1 h4) l b en ac D (Nat.le_of_ble_eq_true rfl) (by decide +kernel)
        have hr : q1 = some (.int 1) := hr
        subst hr
        have X2 : XX hp → XX hd := fun X => by
          refine ⟨?_, dimg0 I.1 (li_len I) X.2.1 f1 e1.1 (by decide +kernel) A2 cp cn, ext_keep A2 (by decide +kernel) (ext_keep e1.1 (by decide +kernel) X.2.2)⟩
          obtain ⟨⟨w0, p0, q0⟩, w1, p1, q1⟩ := X.1
          exact ⟨⟨1, by rw [ag_off A2 (a := 132) (lo := 0) (hi := 0) (by decide +kernel) (Nat.le_of_ble_eq_true rfl : 0 ≤ 0) (Nat.le_of_ble_eq_true rfl : 0 ≤ 0)]; exact x1, kp⟩, ⟨w1, by rw [ag_off A2 (a := 156) (lo := 0) (hi := 0) (by decide +kernel) (Nat.le_of_ble_eq_true rfl : 0 ≤ 0) (Nat.le_of_ble_eq_true rfl : 0 ≤ 0), ag_off e1.1 (a := 156) (lo := 0) (hi := 0) (by decide +kernel) (Nat.le_of_ble_eq_true rfl : 0 ≤ 0) (Nat.le_of_ble_eq_true rfl : 0 ≤ 0)]; exact p1, by rw [ag_off A2 (a := 190) (lo := 1) (hi := 1) (by decide +kernel) (Nat.le_of_ble_eq_true rfl : 1 ≤ 1) (Nat.le_of_ble_eq_true rfl : 1 ≤ 1), ag_off e1.1 (a := 190) (lo := 1) (hi := 1) (by decide +kernel) (Nat.le_of_ble_eq_true rfl : 1 ≤ 1) (Nat.le_of_ble_eq_true rfl : 1 ≤ 1)]; exact q1⟩⟩
        exact op_mkE (r2 := 1) m1 m2 ((show (1 : Int32).toInt = 1 from rfl).trans (end_k (v := 1) (by decide +kernel) e1).symm) ⟨G2, ⟨zt, by rw [ag_off A2 (a := 1) (lo := 1) (hi := 1) (by decide +kernel) (Nat.le_refl 1) (Nat.le_refl 1)]; exact y1, by rw [ag_off A2 (a := 180) (lo := 2) (hi := 2) (by decide +kernel) (Nat.le_refl 2) (Nat.le_refl 2)]; exact y2⟩, ⟨(rr_cp (fun i a1 a2 => ag_off A2 (lo := 154) (hi := 395) (by decide +kernel) (by omega) (by omega)) I1.2.2.1.1), (rr_cp (o1 := 0) (fun i a1 a2 => cp i (by omega)) (rr_cp (fun i a1 a2 => ag_off A2 (lo := 154) (hi := 395) (by decide +kernel) (by omega) (by omega)) I1.2.2.1.1)), (rr_cp (fun i a1 a2 => ag_off A2 (lo := 396) (hi := 791) (by decide +kernel) (by omega) (by omega)) I1.2.2.1.2.2)⟩, by rw [A2.1]; exact I1.2.2.2⟩ I.1 I1.1 X2
      · have h4 : z1.toInt = ((1 : Nat) : Int) := by omega
        have hz : z1 = Int32.ofNat 1 := Int32.toInt_inj.mp (by rw [n_int (by decide)]; exact h4)
        obtain ⟨r, hc, m1, e1, f1⟩ := sd_runF sypc_2608 l b en ac D (ρ := [0]) (As := .ref 0 :: [.int z1]) (en_full []) ⟨rfl, ⟨z1, 0, rfl, rfl, by omega⟩, trivial⟩ (fun q hq => absurd hq List.not_mem_nil) I.1 (Nat.le_of_ble_eq_true rfl) (by decide +kernel)
        have f1 : FR 3 25 [.ref 0, .int z1] hp (some (.int r), hc) := f1
        rw [hz] at f1
        have I1 := li_quiet I e1.1 e1.2.1 (by decide +kernel)
        obtain ⟨zt, y1, y2⟩ := I1.2.1
        obtain ⟨x, x1, x2⟩ := outV_ok (a := 156) (i := 0) (v := 1) (by decide +kernel) e1
        have x3 : x = 1 := Int32.toInt_inj.mp (x2.trans (show (1 : Int) = (1 : Int32).toInt from rfl))
        subst x3
        have x1 : hq hc 156 0 = some (.int 1) := x1
        obtain ⟨⟨q1, hd⟩, m2, hr, A2, G2, cp, kp, cn⟩ := sd_runQ (im_run (k := 1) (by decide) I1.1 h4) l b en ac D (Nat.le_of_ble_eq_true rfl) (by decide +kernel)
        have hr : q1 = some (.int 1) := hr
        subst hr
        have X2 : XX hp → XX hd := fun X => by
          refine ⟨?_, dimg1 I.1 (li_len I) X.2.1 f1 e1.1 (by decide +kernel) A2 cp cn, ext_keep A2 (by decide +kernel) (ext_keep e1.1 (by decide +kernel) X.2.2)⟩
          obtain ⟨⟨w0, p0, q0⟩, w1, p1, q1⟩ := X.1
          exact ⟨⟨w0, by rw [ag_off A2 (a := 132) (lo := 0) (hi := 0) (by decide +kernel) (Nat.le_of_ble_eq_true rfl : 0 ≤ 0) (Nat.le_of_ble_eq_true rfl : 0 ≤ 0), ag_off e1.1 (a := 132) (lo := 0) (hi := 0) (by decide +kernel) (Nat.le_of_ble_eq_true rfl : 0 ≤ 0) (Nat.le_of_ble_eq_true rfl : 0 ≤ 0)]; exact p0, by rw [ag_off A2 (a := 190) (lo := 0) (hi := 0) (by decide +kernel) (Nat.le_of_ble_eq_true rfl : 0 ≤ 0) (Nat.le_of_ble_eq_true rfl : 0 ≤ 0), ag_off e1.1 (a := 190) (lo := 0) (hi := 0) (by decide +kernel) (Nat.le_of_ble_eq_true rfl : 0 ≤ 0) (Nat.le_of_ble_eq_true rfl : 0 ≤ 0)]; exact q0⟩, ⟨1, by rw [ag_off A2 (a := 156) (lo := 0) (hi := 0) (by decide +kernel) (Nat.le_of_ble_eq_true rfl : 0 ≤ 0) (Nat.le_of_ble_eq_true rfl : 0 ≤ 0)]; exact x1, kp⟩⟩
        exact op_mkE (r2 := 1) m1 m2 ((show (1 : Int32).toInt = 1 from rfl).trans (end_k (v := 1) (by decide +kernel) e1).symm) ⟨G2, ⟨zt, by rw [ag_off A2 (a := 1) (lo := 1) (hi := 1) (by decide +kernel) (Nat.le_refl 1) (Nat.le_refl 1)]; exact y1, by rw [ag_off A2 (a := 180) (lo := 2) (hi := 2) (by decide +kernel) (Nat.le_refl 2) (Nat.le_refl 2)]; exact y2⟩, ⟨(rr_cp (fun i a1 a2 => ag_off A2 (lo := 154) (hi := 395) (by decide +kernel) (by omega) (by omega)) I1.2.2.1.1), (rr_cp (fun i a1 a2 => ag_off A2 (lo := 0) (hi := 395) (by decide +kernel) (by omega) (by omega)) I1.2.2.1.2.1), (rr_cp (o1 := 396) (fun i a1 a2 => cp i (by omega)) (rr_cp (fun i a1 a2 => ag_off A2 (lo := 154) (hi := 395) (by decide +kernel) (by omega) (by omega)) I1.2.2.1.1))⟩, by rw [A2.1]; exact I1.2.2.2⟩ I.1 I1.1 X2
set_option maxRecDepth 100000 in
/-- restore -/
theorem op_restore (l : Launch) (b : Nat) (en ac : Nat → Nat) (D : va_G) {hp : List AE} (I : LInv hp) (X : XX hp) (z1 : Int32) : OpE l b en ac D 35 269 [.int z1] hp := by
  have a1 := i32_lo z1
  have a2 := i32_hi z1
  by_cases h1 : z1.toInt < 0
  · obtain ⟨r, hc, m1, e1⟩ := sd_run sypc_2595 l b en ac D (As := .ref 0 :: [.int z1]) (en_one (z := z1.toInt) (by omega) (by omega)) ⟨rfl, sv_i rfl, trivial⟩ (fun q hq => absurd hq List.not_mem_nil) I.1 (Nat.le_of_ble_eq_true rfl) (by decide +kernel)
    have I1 := li_quiet I e1.1 e1.2.1 (by decide +kernel)
    obtain ⟨r2, hd, m2, e2⟩ := sd_run sypc_2587 l b en ac D (As := .ref 180 :: [.int z1]) (en_one (z := z1.toInt) (by omega) (by omega)) ⟨rfl, sv_i rfl, trivial⟩ (fun q hq => absurd hq List.not_mem_nil) I1.1 (Nat.le_of_ble_eq_true rfl) (by decide +kernel)
    exact op_mkE m1 m2 ((end_k (v := 0) (by decide +kernel) e2).trans (end_k (v := 0) (by decide +kernel) e1).symm) (li_quiet I1 e2.1 e2.2.1 (by decide +kernel)) I.1 I1.1 (xx_two e1.1 (by decide +kernel) e2.1 (by decide +kernel))
  · by_cases h2 : 1 < z1.toInt
    · obtain ⟨r, hc, m1, e1⟩ := sd_run sypc_2596 l b en ac D (As := .ref 0 :: [.int z1]) (en_one (z := z1.toInt) (by omega) (by omega)) ⟨rfl, sv_i rfl, trivial⟩ (fun q hq => absurd hq List.not_mem_nil) I.1 (Nat.le_of_ble_eq_true rfl) (by decide +kernel)
      have I1 := li_quiet I e1.1 e1.2.1 (by decide +kernel)
      obtain ⟨r2, hd, m2, e2⟩ := sd_run sypc_2588 l b en ac D (As := .ref 180 :: [.int z1]) (en_one (z := z1.toInt) (by omega) (by omega)) ⟨rfl, sv_i rfl, trivial⟩ (fun q hq => absurd hq List.not_mem_nil) I1.1 (Nat.le_of_ble_eq_true rfl) (by decide +kernel)
      exact op_mkE m1 m2 ((end_k (v := 0) (by decide +kernel) e2).trans (end_k (v := 0) (by decide +kernel) e1).symm) (li_quiet I1 e2.1 e2.2.1 (by decide +kernel)) I.1 I1.1 (xx_two e1.1 (by decide +kernel) e2.1 (by decide +kernel))
    · by_cases h3 : z1.toInt = 0
      · have h4 : z1.toInt = ((0 : Nat) : Int) := by omega
        have hz : z1 = Int32.ofNat 0 := Int32.toInt_inj.mp (by rw [n_int (by decide)]; exact h4)
        obtain ⟨x, x0, x1⟩ := X.1.1
        obtain ⟨xx, w1, w2⟩ := hp_kept I.1 (k := 0) (by decide)
        rw [x1] at w1
        cases w1
        rcases w2 with w2 | w2
        · obtain ⟨r, hc, m1, e1⟩ := sd_run sypc_2602 l b en ac D (ρ := [0]) (As := .ref 0 :: [.int z1]) (en_full []) ⟨rfl, ⟨z1, 0, rfl, rfl, by omega⟩, trivial⟩ (fun q hq => by rw [List.mem_singleton.mp hq]; exact ⟨.int x, x0, x, 0, rfl, rfl, by omega⟩) I.1 (Nat.le_of_ble_eq_true rfl) (by decide +kernel)
          have I1 := li_quiet I e1.1 e1.2.1 (by decide +kernel)
          have x3 : hq hc 190 0 = some (.int x) := by rw [ag_off e1.1 (a := 190) (lo := 0) (hi := 0) (by decide +kernel) (Nat.le_of_ble_eq_true rfl : 0 ≤ 0) (Nat.le_of_ble_eq_true rfl : 0 ≤ 0)]; exact x1
          obtain ⟨r2, hd, m2, e2⟩ := sd_run (r0_ok (k := 0) (by decide)) l b en ac D (ρ := [0]) (As := .ref 180 :: [.int z1]) (en_full []) ⟨rfl, ⟨z1, 0, rfl, rfl, by omega⟩, trivial⟩ (fun q hq => by rw [List.mem_singleton.mp hq]; exact ⟨.int x, x3, x, 0, rfl, rfl, by omega⟩) I1.1 (Nat.le_of_ble_eq_true rfl) (by decide +kernel)
          exact op_mkE m1 m2 ((end_k (v := 0) (by decide +kernel) e2).trans (end_k (v := 0) (by decide +kernel) e1).symm) (li_quiet I1 e2.1 e2.2.1 (by decide +kernel)) I.1 I1.1 (xx_two e1.1 (by decide +kernel) e2.1 (by decide +kernel))
        · obtain ⟨r, hc, m1, e1, f1⟩ := sd_runF sypc_2603 l b en ac D (ρ := [0]) (As := .ref 0 :: [.int z1]) (en_full []) ⟨rfl, ⟨z1, 0, rfl, rfl, by omega⟩, trivial⟩ (fun q hq => by rw [List.mem_singleton.mp hq]; exact ⟨.int x, x0, x, 0, rfl, rfl, by omega⟩) I.1 (Nat.le_of_ble_eq_true rfl) (by decide +kernel)
          have f1 : FR 3 35 [.ref 0, .int z1] hp (some (.int r), hc) := f1
          rw [hz] at f1
          have I1 := li_quiet I e1.1 e1.2.1 (by decide +kernel)
          obtain ⟨zt, y1, y2⟩ := I1.2.1
          have x3 : hq hc 190 0 = some (.int x) := by rw [ag_off e1.1 (a := 190) (lo := 0) (hi := 0) (by decide +kernel) (Nat.le_of_ble_eq_true rfl : 0 ≤ 0) (Nat.le_of_ble_eq_true rfl : 0 ≤ 0)]; exact x1
          obtain ⟨⟨q1, hd⟩, m2, hr, A2, G2, cp, cn⟩ := sd_runQ (re_run (k := 0) (by decide) I1.1 h4 x3 w2) l b en ac D (Nat.le_of_ble_eq_true rfl) (by decide +kernel)
          have hr : q1 = some (.int 1) := hr
          subst hr
          exact op_mkE (r2 := 1) m1 m2 ((show (1 : Int32).toInt = 1 from rfl).trans (end_k (v := 1) (by decide +kernel) e1).symm) ⟨G2, ⟨zt, by rw [ag_off A2 (a := 1) (lo := 1) (hi := 1) (by decide +kernel) (Nat.le_refl 1) (Nat.le_refl 1)]; exact y1, by rw [ag_off A2 (a := 180) (lo := 2) (hi := 2) (by decide +kernel) (Nat.le_refl 2) (Nat.le_refl 2)]; exact y2⟩, ⟨(rr_cp (o0 := 0) (fun i a1 a2 => cp i (by omega)) (rr_cp (fun i a1 a2 => ag_off A2 (lo := 0) (hi := 395) (by decide +kernel) (by omega) (by omega)) I1.2.2.1.2.1)), (rr_cp (fun i a1 a2 => ag_off A2 (lo := 0) (hi := 395) (by decide +kernel) (by omega) (by omega)) I1.2.2.1.2.1), (rr_cp (fun i a1 a2 => ag_off A2 (lo := 396) (hi := 791) (by decide +kernel) (by omega) (by omega)) I1.2.2.1.2.2)⟩, by rw [A2.1]; exact I1.2.2.2⟩ I.1 I1.1 (fun _ => ⟨xx0_keep A2 (by decide +kernel) (xx0_keep e1.1 (by decide +kernel) X.1), drest0 I.1 (li_len I) X.2.1 (by rw [x0, Int32.toInt_inj.mp (w2.trans (show (1 : Int) = (1 : Int32).toInt from rfl))]) f1 e1.1 (by decide +kernel) A2 cp cn, ext_keep A2 (by decide +kernel) (ext_keep e1.1 (by decide +kernel) X.2.2)⟩)
      · have h4 : z1.toInt = ((1 : Nat) : Int) := by omega
        have hz : z1 = Int32.ofNat 1 := Int32.toInt_inj.mp (by rw [n_int (by decide)]; exact h4)
        obtain ⟨x, x0, x1⟩ := X.1.2
        obtain ⟨xx, w1, w2⟩ := hp_kept I.1 (k := 1) (by decide)
        rw [x1] at w1
        cases w1
        rcases w2 with w2 | w2
        · obtain ⟨r, hc, m1, e1⟩ := sd_run sypc_2609 l b en ac D (ρ := [0]) (As := .ref 0 :: [.int z1]) (en_full []) ⟨rfl, ⟨z1, 0, rfl, rfl, by omega⟩, trivial⟩ (fun q hq => by rw [List.mem_singleton.mp hq]; exact ⟨.int x, x0, x, 0, rfl, rfl, by omega⟩) I.1 (Nat.le_of_ble_eq_true rfl) (by decide +kernel)
          have I1 := li_quiet I e1.1 e1.2.1 (by decide +kernel)
          have x3 : hq hc 190 1 = some (.int x) := by rw [ag_off e1.1 (a := 190) (lo := 1) (hi := 1) (by decide +kernel) (Nat.le_of_ble_eq_true rfl : 1 ≤ 1) (Nat.le_of_ble_eq_true rfl : 1 ≤ 1)]; exact x1
          obtain ⟨r2, hd, m2, e2⟩ := sd_run (r0_ok (k := 1) (by decide)) l b en ac D (ρ := [0]) (As := .ref 180 :: [.int z1]) (en_full []) ⟨rfl, ⟨z1, 0, rfl, rfl, by omega⟩, trivial⟩ (fun q hq => by rw [List.mem_singleton.mp hq]; exact ⟨.int x, x3, x, 0, rfl, rfl, by omega⟩) I1.1 (Nat.le_of_ble_eq_true rfl) (by decide +kernel)
          exact op_mkE m1 m2 ((end_k (v := 0) (by decide +kernel) e2).trans (end_k (v := 0) (by decide +kernel) e1).symm) (li_quiet I1 e2.1 e2.2.1 (by decide +kernel)) I.1 I1.1 (xx_two e1.1 (by decide +kernel) e2.1 (by decide +kernel))
        · obtain ⟨r, hc, m1, e1, f1⟩ := sd_runF sypc_2610 l b en ac D (ρ := [0]) (As := .ref 0 :: [.int z1]) (en_full []) ⟨rfl, ⟨z1, 0, rfl, rfl, by omega⟩, trivial⟩ (fun q hq => by rw [List.mem_singleton.mp hq]; exact ⟨.int x, x0, x, 0, rfl, rfl, by omega⟩) I.1 (Nat.le_of_ble_eq_true rfl) (by decide +kernel)
          have f1 : FR 3 35 [.ref 0, .int z1] hp (some (.int r), hc) := f1
          rw [hz] at f1
          have I1 := li_quiet I e1.1 e1.2.1 (by decide +kernel)
          obtain ⟨zt, y1, y2⟩ := I1.2.1
          have x3 : hq hc 190 1 = some (.int x) := by rw [ag_off e1.1 (a := 190) (lo := 1) (hi := 1) (by decide +kernel) (Nat.le_of_ble_eq_true rfl : 1 ≤ 1) (Nat.le_of_ble_eq_true rfl : 1 ≤ 1)]; exact x1
          obtain ⟨⟨q1, hd⟩, m2, hr, A2, G2, cp, cn⟩ := sd_runQ (re_run (k := 1) (by decide) I1.1 h4 x3 w2) l b en ac D (Nat.le_of_ble_eq_true rfl) (by decide +kernel)
          have hr : q1 = some (.int 1) := hr
          subst hr
          exact op_mkE (r2 := 1) m1 m2 ((show (1 : Int32).toInt = 1 from rfl).trans (end_k (v := 1) (by decide +kernel) e1).symm) ⟨G2, ⟨zt, by rw [ag_off A2 (a := 1) (lo := 1) (hi := 1) (by decide +kernel) (Nat.le_refl 1) (Nat.le_refl 1)]; exact y1, by rw [ag_off A2 (a := 180) (lo := 2) (hi := 2) (by decide +kernel) (Nat.le_refl 2) (Nat.le_refl 2)]; exact y2⟩, ⟨(rr_cp (o0 := 396) (fun i a1 a2 => cp i (by omega)) (rr_cp (fun i a1 a2 => ag_off A2 (lo := 396) (hi := 791) (by decide +kernel) (by omega) (by omega)) I1.2.2.1.2.2)), (rr_cp (fun i a1 a2 => ag_off A2 (lo := 0) (hi := 395) (by decide +kernel) (by omega) (by omega)) I1.2.2.1.2.1), (rr_cp (fun i a1 a2 => ag_off A2 (lo := 396) (hi := 791) (by decide +kernel) (by omega) (by omega)) I1.2.2.1.2.2)⟩, by rw [A2.1]; exact I1.2.2.2⟩ I.1 I1.1 (fun _ => ⟨xx0_keep A2 (by decide +kernel) (xx0_keep e1.1 (by decide +kernel) X.1), drest1 I.1 (li_len I) X.2.1 (by rw [x0, Int32.toInt_inj.mp (w2.trans (show (1 : Int) = (1 : Int32).toInt from rfl))]) f1 e1.1 (by decide +kernel) A2 cp cn, ext_keep A2 (by decide +kernel) (ext_keep e1.1 (by decide +kernel) X.2.2)⟩)
set_option maxRecDepth 100000 in
/-- feed -/
theorem op_feed (l : Launch) (b : Nat) (en ac : Nat → Nat) (D : va_G) {hp : List AE} (I : LInv hp) (z1 z2 z3 z4 z5 : Int32) : OpE l b en ac D 18 199 [.int z1, .int z2, .int z3, .int z4, .int z5] hp := by
  obtain ⟨z, hz1, hz2⟩ := I.2.1
  have hb := hp_tl I.1 hz1
  by_cases hc9 : z.toInt ≤ 920
  · obtain ⟨r, hc, k1, e1, ff1⟩ := sd_runF sypc_2554 l b en ac D (ρ := [0, z1.toInt, z2.toInt, z3.toInt, z4.toInt, z5.toInt, z.toInt]) (As := .ref 0 :: [.int z1, .int z2, .int z3, .int z4, .int z5]) (en_more [z1, z2, z3, z4, z5] (z := z.toInt) (by omega) (by omega)) ⟨rfl, sv_i rfl, sv_i rfl, sv_i rfl, sv_i rfl, sv_i rfl, trivial⟩ (fun q hq => by rw [List.mem_singleton.mp hq]; exact ⟨.int z, hz1, sv_i rfl⟩) I.1 (Nat.le_of_ble_eq_true rfl) (by decide +kernel)
    have hz3 : hq hc 180 2 = some (.int z) := by rw [ag_off e1.1 (a := 180) (lo := 2) (hi := 2) (by decide +kernel) (Nat.le_refl 2) (Nat.le_refl 2)]; exact hz2
    obtain ⟨r2, hd, k2, e2, ff2⟩ := sd_runF sypc_2538 l b en ac D (ρ := [0, z1.toInt, z2.toInt, z3.toInt, z4.toInt, z5.toInt, z.toInt]) (As := .ref 180 :: [.int z1, .int z2, .int z3, .int z4, .int z5]) (en_more [z1, z2, z3, z4, z5] (z := z.toInt) (by omega) (by omega)) ⟨rfl, sv_i rfl, sv_i rfl, sv_i rfl, sv_i rfl, sv_i rfl, trivial⟩ (fun q hq => by rw [List.mem_singleton.mp hq]; exact ⟨.int z, hz3, sv_i rfl⟩) e1.2.1 (Nat.le_of_ble_eq_true rfl) (by decide +kernel)
    obtain ⟨wx, x1, x2, x3⟩ : ∃ w : Int32, hq hc 1 1 = some (.int w) ∧ w.toInt = z.toInt + 20 ∧ r.toInt = z.toInt + 20 := by
      obtain ⟨-, -, o, ho, τ, t1, t2, t3⟩ := e1
      rw [List.mem_singleton.mp ho] at t1 t2 t3
      obtain ⟨v, v1, y, yz, v2, v3, v4⟩ := t2 (1, 1, (0, 6, 20)) (by decide +kernel)
      obtain ⟨y2, yz2, u2, u3, u4⟩ := t3
      cases v3
      cases u2
      cases u3
      rw [v2] at v1
      exact ⟨y, v1, v4, by omega⟩
    obtain ⟨wm, m1, m2, m3⟩ : ∃ w : Int32, hq hd 180 2 = some (.int w) ∧ w.toInt = z.toInt + 20 ∧ r2.toInt = z.toInt + 20 := by
      obtain ⟨-, -, o, ho, τ, t1, t2, t3⟩ := e2
      rw [List.mem_singleton.mp ho] at t1 t2 t3
      obtain ⟨v, v1, y, yz, v2, v3, v4⟩ := t2 (180, 2, (0, 6, 20)) (by decide +kernel)
      obtain ⟨y2, yz2, u2, u3, u4⟩ := t3
      cases v3
      cases u2
      cases u3
      rw [v2] at v1
      exact ⟨y, v1, v4, by omega⟩
    have er : r2 = r := Int32.toInt_inj.mp (by rw [m3, x3])
    subst er
    have ew : wm = wx := Int32.toInt_inj.mp (by rw [m2, x2])
    obtain ⟨fs, f1⟩ := hp_x I.1
    obtain ⟨gs, g1⟩ := hp_m e1.2.1
    refine ⟨r2, hc, hd, fs, gs, k1, k2, ⟨e2.2.1, ⟨wx, by rw [ag_off e2.1 (a := 1) (lo := 1) (hi := 1) (by decide +kernel) (Nat.le_refl 1) (Nat.le_refl 1)]; exact x1, by rw [← ew]; exact m1⟩, rt_quiet e2.1 (by decide +kernel) (rt_quiet e1.1 (by decide +kernel) I.2.2.1), by rw [e2.1.1, e1.1.1]; exact I.2.2.2⟩, f1, g1, fun X => ⟨xx0_keep e2.1 (by decide +kernel) (xx0_keep e1.1 (by decide +kernel) X.1), ⟨tp_feed I.1 (li_len I) X.2.1.1 ⟨z, hz1, hz2⟩ ff1 ff2, rest_keep e2.1 (by decide +kernel) (rest_keep e1.1 (by decide +kernel) X.2.1.2)⟩, ext_keep e2.1 (by decide +kernel) (ext_keep e1.1 (by decide +kernel) X.2.2)⟩⟩
  · obtain ⟨r, hc, k1, e1, ff1⟩ := sd_runF sypc_2555 l b en ac D (ρ := [0, z1.toInt, z2.toInt, z3.toInt, z4.toInt, z5.toInt, z.toInt]) (As := .ref 0 :: [.int z1, .int z2, .int z3, .int z4, .int z5]) (en_more [z1, z2, z3, z4, z5] (z := z.toInt) (by omega) (by omega)) ⟨rfl, sv_i rfl, sv_i rfl, sv_i rfl, sv_i rfl, sv_i rfl, trivial⟩ (fun q hq => by rw [List.mem_singleton.mp hq]; exact ⟨.int z, hz1, sv_i rfl⟩) I.1 (Nat.le_of_ble_eq_true rfl) (by decide +kernel)
    have hz3 : hq hc 180 2 = some (.int z) := by rw [ag_off e1.1 (a := 180) (lo := 2) (hi := 2) (by decide +kernel) (Nat.le_refl 2) (Nat.le_refl 2)]; exact hz2
    obtain ⟨r2, hd, k2, e2, ff2⟩ := sd_runF sypc_2539 l b en ac D (ρ := [0, z1.toInt, z2.toInt, z3.toInt, z4.toInt, z5.toInt, z.toInt]) (As := .ref 180 :: [.int z1, .int z2, .int z3, .int z4, .int z5]) (en_more [z1, z2, z3, z4, z5] (z := z.toInt) (by omega) (by omega)) ⟨rfl, sv_i rfl, sv_i rfl, sv_i rfl, sv_i rfl, sv_i rfl, trivial⟩ (fun q hq => by rw [List.mem_singleton.mp hq]; exact ⟨.int z, hz3, sv_i rfl⟩) e1.2.1 (Nat.le_of_ble_eq_true rfl) (by decide +kernel)
    obtain ⟨wx, x1, x2, x3⟩ : ∃ w : Int32, hq hc 1 1 = some (.int w) ∧ w.toInt = z.toInt + 0 ∧ r.toInt = -1 := by
      obtain ⟨-, -, o, ho, τ, t1, t2, t3⟩ := e1
      rw [List.mem_singleton.mp ho] at t1 t2 t3
      obtain ⟨v, v1, y, yz, v2, v3, v4⟩ := t2 (1, 1, (0, 6, 0)) (by decide +kernel)
      obtain ⟨y2, yz2, u2, u3, u4⟩ := t3
      cases v3
      cases u2
      cases u3
      rw [v2] at v1
      exact ⟨y, v1, v4, by omega⟩
    obtain ⟨wm, m1, m2, m3⟩ : ∃ w : Int32, hq hd 180 2 = some (.int w) ∧ w.toInt = z.toInt + 0 ∧ r2.toInt = -1 := by
      obtain ⟨-, -, o, ho, τ, t1, t2, t3⟩ := e2
      rw [List.mem_singleton.mp ho] at t1 t2 t3
      obtain ⟨v, v1, y, yz, v2, v3, v4⟩ := t2 (180, 2, (0, 6, 0)) (by decide +kernel)
      obtain ⟨y2, yz2, u2, u3, u4⟩ := t3
      cases v3
      cases u2
      cases u3
      rw [v2] at v1
      exact ⟨y, v1, v4, by omega⟩
    have er : r2 = r := Int32.toInt_inj.mp (by rw [m3, x3])
    subst er
    have ew : wm = wx := Int32.toInt_inj.mp (by rw [m2, x2])
    obtain ⟨fs, f1⟩ := hp_x I.1
    obtain ⟨gs, g1⟩ := hp_m e1.2.1
    refine ⟨r2, hc, hd, fs, gs, k1, k2, ⟨e2.2.1, ⟨wx, by rw [ag_off e2.1 (a := 1) (lo := 1) (hi := 1) (by decide +kernel) (Nat.le_refl 1) (Nat.le_refl 1)]; exact x1, by rw [← ew]; exact m1⟩, rt_quiet e2.1 (by decide +kernel) (rt_quiet e1.1 (by decide +kernel) I.2.2.1), by rw [e2.1.1, e1.1.1]; exact I.2.2.2⟩, f1, g1, fun X => ⟨xx0_keep e2.1 (by decide +kernel) (xx0_keep e1.1 (by decide +kernel) X.1), ⟨tp_feed I.1 (li_len I) X.2.1.1 ⟨z, hz1, hz2⟩ ff1 ff2, rest_keep e2.1 (by decide +kernel) (rest_keep e1.1 (by decide +kernel) X.2.1.2)⟩, ext_keep e2.1 (by decide +kernel) (ext_keep e1.1 (by decide +kernel) X.2.2)⟩⟩
end
