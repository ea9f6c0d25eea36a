/-! ===== feed keeps the tapes alike ===== -/
theorem tp_feed {hp hc hd : List AE} {z1 z2 z3 z4 z5 r r2 : Int32} {k1 k2 : Nat} (G : hp_ok GG hp) (hlen : Nat.ble 204 hp.length = true) (hT : TPH hp) (hz : ∃ z : Int32, hq hp 1 1 = some (.int z) ∧ hq hp 180 2 = some (.int z)) (f1 : FR k1 18 [.ref 0, .int z1, .int z2, .int z3, .int z4, .int z5] hp (some (.int r), hc)) (f2 : FR k2 199 [.ref 180, .int z1, .int z2, .int z3, .int z4, .int z5] hc (some (.int r2), hd)) : TPH hd := by
  obtain ⟨d, s, se, ss, lt, fb, tq, gb, e0, hd0, hs0, hse0, hss0⟩ := oc_0 G
  obtain ⟨n, lim, a, kd, pl, w, le, nu, tk, fa, fp, e1, hn, hw⟩ := oc_1 G
  obtain ⟨bs, ts, e2, e181, tp⟩ := hT
  obtain ⟨p0, n2, sz, lim2, am, fr, kd2, nu2, sg, fa2, pl2, wd, td, sm, pr, e180, hn2⟩ := oc_180 G
  obtain rfl : n = n2 := by
    obtain ⟨z, z1, z2⟩ := hz
    rw [hq_obj e1] at z1
    rw [hq_obj e180] at z2
    have y1 : some (Value.int (Int32.ofNat n)) = some (.int z) := z1
    have y2 : some (Value.int (Int32.ofNat n2)) = some (.int z) := z2
    have e := congrArg Int32.toInt (Value.int.inj (Option.some.inj (y1.trans y2.symm)))
    rw [n_int (by omega), n_int (by omega)] at e
    omega
  by_cases c : n + 20 ≤ 940
  · have q := (Prod.mk.inj (FR.det f1 (x_feed (n := n) (x1 := z1) (x2 := z2) (x3 := z3) (x4 := z4) (x5 := z5) hlen e0 e1 e2 tp.1 c))).2
    subst q
    have q := (Prod.mk.inj (FR.det f2 (m_feed (n := n) (x1 := z1) (x2 := z2) (x3 := z3) (x4 := z4) (x5 := z5) (ov_hl hlen) ((ov_no rfl).trans e180) ((ov_no rfl).trans e181) tp.2.1 c))).2
    subst q
    exact ⟨(pt (pt (pt (pt (pt bs n z1) (n + 1 + 1 + 1 + 1) z2) ((n + 1 + 1 + 1 + 1) + 1 + 1 + 1 + 1) z3) (((n + 1 + 1 + 1 + 1) + 1 + 1 + 1 + 1) + 1 + 1 + 1 + 1) z4) ((((n + 1 + 1 + 1 + 1) + 1 + 1 + 1 + 1) + 1 + 1 + 1 + 1) + 1 + 1 + 1 + 1) z5), (qt (qt (qt (qt (qt ts n z1) (n + 1 + 1 + 1 + 1) z2) ((n + 1 + 1 + 1 + 1) + 1 + 1 + 1 + 1) z3) (((n + 1 + 1 + 1 + 1) + 1 + 1 + 1 + 1) + 1 + 1 + 1 + 1) z4) ((((n + 1 + 1 + 1 + 1) + 1 + 1 + 1 + 1) + 1 + 1 + 1 + 1) + 1 + 1 + 1 + 1) z5), (ov_no rfl).trans (ov_at rfl (ov_lt hlen (by decide))), ov_at rfl (ov_lt (ov_hl hlen) (by decide)), tp_pt (tp_pt (tp_pt (tp_pt (tp_pt tp))))⟩
  · have q : hc = hp := (Prod.mk.inj (FR.det f1 (x_feed0 (n := n) (x1 := z1) (x2 := z2) (x3 := z3) (x4 := z4) (x5 := z5) hlen e0 e1 (by omega) hn))).2
    subst q
    have q := (Prod.mk.inj (FR.det f2 (m_feed0 (n := n) (x1 := z1) (x2 := z2) (x3 := z3) (x4 := z4) (x5 := z5) hlen e180 (by omega) hn))).2
    subst q
    exact ⟨bs, ts, (ov_no rfl).trans e2, (ov_no rfl).trans e181, tp⟩
