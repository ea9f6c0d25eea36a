/-! ===== fits: both alike ===== -/
theorem fi_eq {hp hc hd : List AE} {r r2 : Int32} {k1 k2 : Nat} (G : hp_ok GG hp) (hlen : Nat.ble 204 hp.length = true) (C : CUR hp) (hz : ∃ z : Int32, hq hp 1 1 = some (.int z) ∧ hq hp 180 2 = some (.int z)) (hT : TPH hp) (hg : FIT hp) (f1 : FR k1 20 [.ref 0] hp (some (.int r), hc)) (f2 : FR k2 202 [.ref 180] hc (some (.int r2), hd)) : r2 = r ∧ FIT hd := by
  obtain ⟨d, s, se, ss, lt, fb, tq, gb, e0, hd0, hs0, hse0, hss0⟩ := oc_0 G
  obtain ⟨n, lim, a, kd, pl, w, le, nu, tk, fa, fp, e1, hn, hw⟩ := oc_1 G
  obtain ⟨bs, ts, e2, e181, tp⟩ := hT
  obtain ⟨p0, n2, sz, lim2, a2, fr, kd2, nu2, sg, fa2, pl2, wd, td, sm, pm, pn, fm, te, gu, pr, e180, hn2⟩ := oc_180g G
  obtain rfl : n = n2 := by
    obtain ⟨z, z1, z2⟩ := hz
    rw [hq_obj e1] at z1
    rw [hq_obj e180] at z2
    have y1 : some (Value.int (Int32.ofNat n)) = some (.int z) := z1
    have y2 : some (Value.int (Int32.ofNat n2)) = some (.int z) := z2
    have e := congrArg Int32.toInt (Value.int.inj (Option.some.inj (y1.trans y2.symm)))
    rw [n_int (by omega), n_int (by omega)] at e
    omega
  obtain ⟨nw, -, kw, e182⟩ := ai_of (hp := hp) (a := 182) (t := 1) (n := 396) (G.1 182 gc182 rfl).1
  obtain ⟨fi, -, kf, e195⟩ := ai_of (hp := hp) (a := 195) (t := 1) (n := 21) (G.1 195 gc195 rfl).1
  obtain ⟨ty, -, kt, e196⟩ := ai_of (hp := hp) (a := 196) (t := 1) (n := 21) (G.1 196 gc196 rfl).1
  obtain ⟨B, hB, hM, hb⟩ := tp_B tp
  obtain ⟨b0, te2, hb0, g1, g2, g3, g4, g5⟩ := hg
  rw [hq_obj e0] at g1 g4
  rw [hq_obj e180] at g2 g5
  have g1 : some (Value.int fb) = some (.int (Int32.ofNat b0)) := g1
  have g4 : some (Value.int tq) = some (.int te2) := g4
  have g2 : some (Value.int fm) = some (.int (Int32.ofNat (cnt b0 21))) := g2
  have g5 : some (Value.int te) = some (.int te2) := g5
  obtain rfl := Value.int.inj (Option.some.inj g1)
  obtain rfl := Value.int.inj (Option.some.inj g4)
  obtain rfl := Value.int.inj (Option.some.inj g2)
  obtain rfl := Value.int.inj (Option.some.inj g5)
  rcases C with ⟨h0d, -, hD⟩ | ⟨h0d, -, hD⟩
  · rw [hq_obj e0] at h0d
    have h0d : some (Value.ref d) = some (.ref 3) := h0d
    obtain rfl := Value.ref.inj (Option.some.inj h0d)
    obtain ⟨P, Dn, lw, cl, id, gl, bo, pn, ri, lf, wa, fo, dn, ha, pa, bl, rd, rn, k0, -, kr, kl, -, -, -, kh, -, -, y1, y2, df, y4, y5⟩ := hD
    have nr : ∀ j, j < 101 → nw[j]? = rd[j]? := fun j hj => map_i (by rw [← y4 j hj, Nat.zero_add, hq_int e182])
    obtain ⟨hP, hDn, hl, hN, ⟨v0, v1, v19, v19b, v44, v44b, vp, vd, vf⟩, ⟨X, Y, hw1, hw2⟩, -, -, -⟩ := df
    have hv := (nr 0 (by decide)).trans v0
    have hv1 := (nr 1 (by decide)).trans v1
    have h44 := (nr 44 (by decide)).trans v44
    have vpn : ∀ i, i < P → ri[i]? = nw[5 + i]? ∧ lf[i]? = nw[12 + i]? := fun i hi => ⟨(vp i hi).1.trans (nr _ (by omega)).symm, (vp i hi).2.trans (nr _ (by omega)).symm⟩
    have vdn : ∀ d, d < Dn → ha[d]? = nw[20 + d]? := fun d hd => (vd d hd).1.trans (nr _ (by omega)).symm
    obtain ⟨-, lr, ll, -, -, -, lh, -, -⟩ := hl
    by_cases c : gdF B Dn n
    · obtain ⟨m, hn9, hm1, hm, hgg⟩ := c
      have hb2 : (fbL (fun d => cbL (KK' bo d ri lf ha) (3 * P) 0 0) B m 0 (2 ^ (3 * P) - 1)) < 2 ^ (3 * P) := fb_lt (by have := Nat.two_pow_pos (3 * P); omega)
      have hbt : ∀ c, c < 3 * P → ((fbL (fun d => cbL (KK' bo d ri lf ha) (3 * P) 0 0) B m 0 (2 ^ (3 * P) - 1))).testBit c = soL (fun d => KK' bo d ri lf ha c) B m 0 true := fun c hc => by
        rw [fb_so (K := fun c d => KK' bo d ri lf ha c) (c := c) (by omega) (fun d => cbL_lt (m := 21) (by omega) (by decide)) (fun d => ?_) m 0, Nat.testBit_two_pow_sub_one, decide_eq_true hc]
        rw [Bool.eq_iff_iff, cbL_bit]
        constructor
        · rintro (z | z)
          · rw [Nat.zero_testBit] at z; cases z
          · exact z.2.2
        · intro z; exact Or.inr ⟨Nat.zero_le c, by omega, z⟩
      by_cases z : (fbL (fun d => cbL (KK' bo d ri lf ha) (3 * P) 0 0) B m 0 (2 ^ (3 * P) - 1)) = 0
      · obtain ⟨q3, q4⟩ := vi_inj (FR.det f1 (x_fi13 hlen hB hb v44b hP hDn lr ll lh e0 e1 e2 k0 kr kl kh hn9 hm1 hm hgg z))
        subst q4
        obtain ⟨q5, q6⟩ := vi_inj (FR.det f2 (m_fi1 (ov_hl hlen) hM hb hP hDn hv hv1 h44 v44b lr ll lh vpn vdn ((ov_no rfl).trans e180) ((ov_no rfl).trans e181) ((ov_no rfl).trans e182) ((ov_no rfl).trans e195) ((ov_no rfl).trans e196) kf kt hn9 hm1 hm hgg hb2 hbt z))
        subst q6
        refine ⟨q5.trans q3.symm, b0, _, hb0, (hq_obj ((ov_no rfl).trans (ov_at rfl (ov_lt hlen (by decide))))).trans rfl, (hq_obj (ov_at rfl (ov_lt (ov_hl hlen) (by decide)))).trans rfl, fun c hc => ?_, (hq_obj ((ov_no rfl).trans (ov_at rfl (ov_lt hlen (by decide))))).trans rfl, (hq_obj (ov_at rfl (ov_lt (ov_hl hlen) (by decide)))).trans rfl⟩
        rw [← g3 c hc]
        exact (ce_same ((ov_no rfl).trans (ov_no rfl))).2 _
      · obtain ⟨q3, q4⟩ := vi_inj (FR.det f1 (x_fi23 hlen hB hb v44b hP hDn lr ll lh e0 e1 e2 k0 kr kl kh hn9 hm1 hm hgg z))
        subst q4
        obtain ⟨q5, q6⟩ := vi_inj (FR.det f2 (m_fi2 (ov_hl hlen) hM hb hP hDn hv hv1 h44 v44b lr ll lh vpn vdn ((ov_no rfl).trans e180) ((ov_no rfl).trans e181) ((ov_no rfl).trans e182) ((ov_no rfl).trans e195) ((ov_no rfl).trans e196) kf kt hn9 hm1 hm hgg hb2 hbt z))
        subst q6
        refine ⟨q5.trans q3.symm, (fbL (fun d => cbL (KK' bo d ri lf ha) (3 * P) 0 0) B m 0 (2 ^ (3 * P) - 1)), _, fb_lt (m := 21) (all_lt hP), (hq_obj ((ov_no rfl).trans (ov_at rfl (ov_lt hlen (by decide))))).trans rfl, (hq_obj (ov_at rfl (ov_lt (ov_hl hlen) (by decide)))).trans rfl, fun c hc => ?_, (hq_obj ((ov_no rfl).trans (ov_at rfl (ov_lt hlen (by decide))))).trans rfl, (hq_obj (ov_at rfl (ov_lt (ov_hl hlen) (by decide)))).trans rfl⟩
        rw [hq_int (ov_at rfl (ov_lt (ov_hl hlen) (by decide))), fi_rel hP hb2 kf kt c hc]
        rfl
    · obtain ⟨q3, q4⟩ := vi_inj (FR.det f1 (x_fi03 hlen hB hb v44b hP hDn lr ll lh e0 e1 e2 k0 kr kl kh hn c))
      subst q4
      obtain ⟨q5, q6⟩ := vi_inj (FR.det f2 (m_fi0 (ov_hl hlen) hM hb hP hDn hv hv1 h44 v44b lr ll lh vpn vdn ((ov_no rfl).trans e180) ((ov_no rfl).trans e181) ((ov_no rfl).trans e182) ((ov_no rfl).trans e195) ((ov_no rfl).trans e196) kf kt hn c))
      subst q6
      refine ⟨q5.trans q3.symm, b0, _, hb0, (hq_obj ((ov_no rfl).trans (ov_at rfl (ov_lt hlen (by decide))))).trans rfl, (hq_obj (ov_at rfl (ov_lt (ov_hl hlen) (by decide)))).trans rfl, fun c hc => ?_, (hq_obj ((ov_no rfl).trans (ov_at rfl (ov_lt hlen (by decide))))).trans rfl, (hq_obj (ov_at rfl (ov_lt (ov_hl hlen) (by decide)))).trans rfl⟩
      rw [← g3 c hc]
      exact (ce_same ((ov_no rfl).trans (ov_no rfl))).2 _
  · rw [hq_obj e0] at h0d
    have h0d : some (Value.ref d) = some (.ref 13) := h0d
    obtain rfl := Value.ref.inj (Option.some.inj h0d)
    obtain ⟨P, Dn, lw, cl, id, gl, bo, pn, ri, lf, wa, fo, dn, ha, pa, bl, rd, rn, k0, -, kr, kl, -, -, -, kh, -, -, y1, y2, df, y4, y5⟩ := hD
    have nr : ∀ j, j < 101 → nw[j]? = rd[j]? := fun j hj => map_i (by rw [← y4 j hj, Nat.zero_add, hq_int e182])
    obtain ⟨hP, hDn, hl, hN, ⟨v0, v1, v19, v19b, v44, v44b, vp, vd, vf⟩, ⟨X, Y, hw1, hw2⟩, -, -, -⟩ := df
    have hv := (nr 0 (by decide)).trans v0
    have hv1 := (nr 1 (by decide)).trans v1
    have h44 := (nr 44 (by decide)).trans v44
    have vpn : ∀ i, i < P → ri[i]? = nw[5 + i]? ∧ lf[i]? = nw[12 + i]? := fun i hi => ⟨(vp i hi).1.trans (nr _ (by omega)).symm, (vp i hi).2.trans (nr _ (by omega)).symm⟩
    have vdn : ∀ d, d < Dn → ha[d]? = nw[20 + d]? := fun d hd => (vd d hd).1.trans (nr _ (by omega)).symm
    obtain ⟨-, lr, ll, -, -, -, lh, -, -⟩ := hl
    by_cases c : gdF B Dn n
    · obtain ⟨m, hn9, hm1, hm, hgg⟩ := c
      have hb2 : (fbL (fun d => cbL (KK' bo d ri lf ha) (3 * P) 0 0) B m 0 (2 ^ (3 * P) - 1)) < 2 ^ (3 * P) := fb_lt (by have := Nat.two_pow_pos (3 * P); omega)
      have hbt : ∀ c, c < 3 * P → ((fbL (fun d => cbL (KK' bo d ri lf ha) (3 * P) 0 0) B m 0 (2 ^ (3 * P) - 1))).testBit c = soL (fun d => KK' bo d ri lf ha c) B m 0 true := fun c hc => by
        rw [fb_so (K := fun c d => KK' bo d ri lf ha c) (c := c) (by omega) (fun d => cbL_lt (m := 21) (by omega) (by decide)) (fun d => ?_) m 0, Nat.testBit_two_pow_sub_one, decide_eq_true hc]
        rw [Bool.eq_iff_iff, cbL_bit]
        constructor
        · rintro (z | z)
          · rw [Nat.zero_testBit] at z; cases z
          · exact z.2.2
        · intro z; exact Or.inr ⟨Nat.zero_le c, by omega, z⟩
      by_cases z : (fbL (fun d => cbL (KK' bo d ri lf ha) (3 * P) 0 0) B m 0 (2 ^ (3 * P) - 1)) = 0
      · obtain ⟨q3, q4⟩ := vi_inj (FR.det f1 (x_fi113 hlen hB hb v44b hP hDn lr ll lh e0 e1 e2 k0 kr kl kh hn9 hm1 hm hgg z))
        subst q4
        obtain ⟨q5, q6⟩ := vi_inj (FR.det f2 (m_fi1 (ov_hl hlen) hM hb hP hDn hv hv1 h44 v44b lr ll lh vpn vdn ((ov_no rfl).trans e180) ((ov_no rfl).trans e181) ((ov_no rfl).trans e182) ((ov_no rfl).trans e195) ((ov_no rfl).trans e196) kf kt hn9 hm1 hm hgg hb2 hbt z))
        subst q6
        refine ⟨q5.trans q3.symm, b0, _, hb0, (hq_obj ((ov_no rfl).trans (ov_at rfl (ov_lt hlen (by decide))))).trans rfl, (hq_obj (ov_at rfl (ov_lt (ov_hl hlen) (by decide)))).trans rfl, fun c hc => ?_, (hq_obj ((ov_no rfl).trans (ov_at rfl (ov_lt hlen (by decide))))).trans rfl, (hq_obj (ov_at rfl (ov_lt (ov_hl hlen) (by decide)))).trans rfl⟩
        rw [← g3 c hc]
        exact (ce_same ((ov_no rfl).trans (ov_no rfl))).2 _
      · obtain ⟨q3, q4⟩ := vi_inj (FR.det f1 (x_fi213 hlen hB hb v44b hP hDn lr ll lh e0 e1 e2 k0 kr kl kh hn9 hm1 hm hgg z))
        subst q4
        obtain ⟨q5, q6⟩ := vi_inj (FR.det f2 (m_fi2 (ov_hl hlen) hM hb hP hDn hv hv1 h44 v44b lr ll lh vpn vdn ((ov_no rfl).trans e180) ((ov_no rfl).trans e181) ((ov_no rfl).trans e182) ((ov_no rfl).trans e195) ((ov_no rfl).trans e196) kf kt hn9 hm1 hm hgg hb2 hbt z))
        subst q6
        refine ⟨q5.trans q3.symm, (fbL (fun d => cbL (KK' bo d ri lf ha) (3 * P) 0 0) B m 0 (2 ^ (3 * P) - 1)), _, fb_lt (m := 21) (all_lt hP), (hq_obj ((ov_no rfl).trans (ov_at rfl (ov_lt hlen (by decide))))).trans rfl, (hq_obj (ov_at rfl (ov_lt (ov_hl hlen) (by decide)))).trans rfl, fun c hc => ?_, (hq_obj ((ov_no rfl).trans (ov_at rfl (ov_lt hlen (by decide))))).trans rfl, (hq_obj (ov_at rfl (ov_lt (ov_hl hlen) (by decide)))).trans rfl⟩
        rw [hq_int (ov_at rfl (ov_lt (ov_hl hlen) (by decide))), fi_rel hP hb2 kf kt c hc]
        rfl
    · obtain ⟨q3, q4⟩ := vi_inj (FR.det f1 (x_fi013 hlen hB hb v44b hP hDn lr ll lh e0 e1 e2 k0 kr kl kh hn c))
      subst q4
      obtain ⟨q5, q6⟩ := vi_inj (FR.det f2 (m_fi0 (ov_hl hlen) hM hb hP hDn hv hv1 h44 v44b lr ll lh vpn vdn ((ov_no rfl).trans e180) ((ov_no rfl).trans e181) ((ov_no rfl).trans e182) ((ov_no rfl).trans e195) ((ov_no rfl).trans e196) kf kt hn c))
      subst q6
      refine ⟨q5.trans q3.symm, b0, _, hb0, (hq_obj ((ov_no rfl).trans (ov_at rfl (ov_lt hlen (by decide))))).trans rfl, (hq_obj (ov_at rfl (ov_lt (ov_hl hlen) (by decide)))).trans rfl, fun c hc => ?_, (hq_obj ((ov_no rfl).trans (ov_at rfl (ov_lt hlen (by decide))))).trans rfl, (hq_obj (ov_at rfl (ov_lt (ov_hl hlen) (by decide)))).trans rfl⟩
      rw [← g3 c hc]
      exact (ce_same ((ov_no rfl).trans (ov_no rfl))).2 _
