section
/-! ===== feed keeps the tapes alike ===== -/
theorem tp_feed {hp hc hd : List AE} {z1 z2 z3 z4 z5 r r2 : Int32} {k1 k2 : Nat} (G : hp_ok GG hp) (hlen : Nat.ble 204 hp.length = true) (hT : TPH hp) (hz : ∃ z : Int32, hq hp 1 1 = some (.int z) ∧ hq hp 180 2 = some (.int z)) (f1 : FR k1 18 [.ref 0, .int z1, .int z2, .int z3, .int z4, .int z5] hp (some (.int r), hc)) (f2 : FR k2 199 [.ref 180, .int z1, .int z2, .int z3, .int z4, .int z5] hc (some (.int r2), hd)) : TPH hd := by
  obtain ⟨d, s, se, ss, lt, fb, tq, gb, e0, hd0, hs0, hse0, hss0⟩ := oc_0 G
  obtain ⟨n, lim, a, kd, pl, w, le, nu, tk, fa, fp, e1, hn, hw⟩ := oc_1 G
  obtain ⟨bs, ts, e2, e181, tp⟩ := hT
  obtain ⟨p0, n2, sz, lim2, am, fr, kd2, nu2, sg, fa2, pl2, wd, td, sm, pr, e180, hn2⟩ := oc_180 G
  obtain rfl : n = n2 := by
    obtain ⟨z, z1, z2⟩ := hz
    rw [hq_obj e1] at z1
    rw [hq_obj e180] at z2
    have y1 : some (Value.int (Int32.ofNat n)) = some (.int z) := z1
    have y2 : some (Value.int (Int32.ofNat n2)) = some (.int z) := z2
    have e := congrArg Int32.toInt (Value.int.inj (Option.some.inj (y1.trans y2.symm)))
    rw [n_int (by omega), n_int (by omega)] at e
    omega
  by_cases c : n + 20 ≤ 940
  · have q := (Prod.mk.inj (FR.det f1 (x_feed (n := n) (x1 := z1) (x2 := z2) (x3 := z3) (x4 := z4) (x5 := z5) hlen e0 e1 e2 tp.1 c))).2
    subst q
    have q := (Prod.mk.inj (FR.det f2 (m_feed (n := n) (x1 := z1) (x2 := z2) (x3 := z3) (x4 := z4) (x5 := z5) (ov_hl hlen) ((ov_no rfl).trans e180) ((ov_no rfl).trans e181) tp.2.1 c))).2
    subst q
    exact ⟨(pt (pt (pt (pt (pt bs n z1) (n + 1 + 1 + 1 + 1) z2) ((n + 1 + 1 + 1 + 1) + 1 + 1 + 1 + 1) z3) (((n + 1 + 1 + 1 + 1) + 1 + 1 + 1 + 1) + 1 + 1 + 1 + 1) z4) ((((n + 1 + 1 + 1 + 1) + 1 + 1 + 1 + 1) + 1 + 1 + 1 + 1) + 1 + 1 + 1 + 1) z5), (qt (qt (qt (qt (qt ts n z1) (n + 1 + 1 + 1 + 1) z2) ((n + 1 + 1 + 1 + 1) + 1 + 1 + 1 + 1) z3) (((n + 1 + 1 + 1 + 1) + 1 + 1 + 1 + 1) + 1 + 1 + 1 + 1) z4) ((((n + 1 + 1 + 1 + 1) + 1 + 1 + 1 + 1) + 1 + 1 + 1 + 1) + 1 + 1 + 1 + 1) z5), (ov_no rfl).trans (ov_at rfl (ov_lt hlen (by decide))), ov_at rfl (ov_lt (ov_hl hlen) (by decide)), tp_pt (tp_pt (tp_pt (tp_pt (tp_pt tp))))⟩
  · have q : hc = hp := (Prod.mk.inj (FR.det f1 (x_feed0 (n := n) (x1 := z1) (x2 := z2) (x3 := z3) (x4 := z4) (x5 := z5) hlen e0 e1 (by omega) hn))).2
    subst q
    have q := (Prod.mk.inj (FR.det f2 (m_feed0 (n := n) (x1 := z1) (x2 := z2) (x3 := z3) (x4 := z4) (x5 := z5) hlen e180 (by omega) hn))).2
    subst q
    exact ⟨bs, ts, (ov_no rfl).trans e2, (ov_no rfl).trans e181, tp⟩
end
section
/-! ===== duchy keeps the relation, and both answer the same ===== -/
theorem FR_at {k mi : Nat} {As : List Value} {H : List AE} {v : Option Value} {l r : List (Nat × AE)} (e : ov H l = H) (h : FR k mi As (ov H l) (v, ov (ov H l) r)) : FR k mi As H (v, ov H r) := by
  rw [e] at h
  exact h
theorem ov_qa {hp hc : List AE} {l : List (Nat × AE)} {a : Nat} {c : AE} (q : hc = ov hp l) (h : olk l a = some c) (hl : Nat.ble 204 hp.length = true) (ha : Nat.blt a 204 = true) : hc[a]? = some c := by
  rw [q]
  exact ov_at h (Nat.lt_of_lt_of_le (Nat.le_of_ble_eq_true ha) (Nat.le_of_ble_eq_true hl))
theorem ov_q {hp hc : List AE} {l : List (Nat × AE)} {a : Nat} {c : AE} (q : hc = ov hp l) (h : hp[a]? = some c) (hn : olk l a = none) : hc[a]? = some c := by
  rw [q, ov_no hn]
  exact h
theorem vi_inj {a b : Int32} {h h2 : List AE} (e : ((some (.int a), h) : ev_R) = (some (.int b), h2)) : a = b ∧ h = h2 := ⟨Value.int.inj (Option.some.inj (Prod.mk.inj e).1), (Prod.mk.inj e).2⟩
theorem cas10 {Q : Nat → Prop} {m : Nat} (h0 : Q m) (h1 : Q (m + 1)) (h2 : Q (m + 2)) (h3 : Q (m + 3)) (h4 : Q (m + 4)) (h5 : Q (m + 5)) (h6 : Q (m + 6)) (h7 : Q (m + 7)) (h8 : Q (m + 8)) (h9 : Q (m + 9)) : ∀ a, m ≤ a → a ≤ m + 9 → Q a := by
  intro a x y
  rcases (show a = m ∨ a = m + 1 ∨ a = m + 2 ∨ a = m + 3 ∨ a = m + 4 ∨ a = m + 5 ∨ a = m + 6 ∨ a = m + 7 ∨ a = m + 8 ∨ a = m + 9 by omega) with rfl | rfl | rfl | rfl | rfl | rfl | rfl | rfl | rfl | rfl <;> assumption
theorem ddu13_110 {hp hc hd : List AE} {r r2 : Int32} {k1 k2 : Nat} (G : hp_ok GG hp) (hlen : Nat.ble 204 hp.length = true) (hT : TPH hp) (hz : ∃ z : Int32, hq hp 1 1 = some (.int z) ∧ hq hp 180 2 = some (.int z)) (h0d : hq hp 0 1 = some (.ref 3)) (h0s : hq hp 0 2 = some (.ref 13)) (hse : hq hp 0 7 = some (.ref 110)) (hD : DH3 hp 182 0 187 0) (f1 : FR k1 14 [.ref 0] hp (some (.int r), hc)) (f2 : FR k2 195 [.ref 180] hc (some (.int r2), hd)) : r2 = r ∧ TPH hd ∧ CUR hd ∧ FLT hd := by
  obtain ⟨d, s, se, ss, lt, fb, tq, gb, e0, hd0, hs0, hse0, hss0⟩ := oc_0 G
  obtain ⟨n, lim, a, kd, pl, w, le, nu, tk, fa, fp, e1, hn, hw⟩ := oc_1 G
  obtain ⟨bs, ts, e2, e181, tp⟩ := hT
  obtain ⟨p0, n2, sz, lim2, am, fr, kd2, nu2, sg, fa2, pl2, wd, td, sm, pr, e180, hn2⟩ := oc_180 G
  obtain rfl : n = n2 := by
    obtain ⟨z, z1, z2⟩ := hz
    rw [hq_obj e1] at z1
    rw [hq_obj e180] at z2
    have y1 : some (Value.int (Int32.ofNat n)) = some (.int z) := z1
    have y2 : some (Value.int (Int32.ofNat n2)) = some (.int z) := z2
    have e := congrArg Int32.toInt (Value.int.inj (Option.some.inj (y1.trans y2.symm)))
    rw [n_int (by omega), n_int (by omega)] at e
    omega
  rw [hq_obj e0] at h0d h0s hse
  have h0d : some (Value.ref d) = some (.ref 3) := h0d
  have h0s : some (Value.ref s) = some (.ref 13) := h0s
  have hse : some (Value.ref se) = some (.ref 110) := hse
  obtain rfl := Value.ref.inj (Option.some.inj h0d)
  obtain rfl := Value.ref.inj (Option.some.inj h0s)
  obtain rfl := Value.ref.inj (Option.some.inj hse)
  obtain ⟨P, Dn, lw, cl, id, gl, bo, eb, hP, hDn⟩ := oc_13 G
  obtain ⟨pn, -, la1, ca1⟩ := al_of (hp := hp) (a := 14) (t := 2) (n := 7) (G.1 14 gc14 rfl).1
  obtain ⟨ri, -, la2, ca2⟩ := ai_of (hp := hp) (a := 15) (t := 1) (n := 7) (G.1 15 gc15 rfl).1
  obtain ⟨lf, -, la3, ca3⟩ := ai_of (hp := hp) (a := 16) (t := 1) (n := 7) (G.1 16 gc16 rfl).1
  obtain ⟨wa, -, la4, ca4⟩ := ai_of (hp := hp) (a := 17) (t := 1) (n := 7) (G.1 17 gc17 rfl).1
  obtain ⟨fo, -, la5, ca5⟩ := ai_of (hp := hp) (a := 18) (t := 1) (n := 49) (G.1 18 gc18 rfl).1
  obtain ⟨dn, -, la6, ca6⟩ := al_of (hp := hp) (a := 19) (t := 2) (n := 8) (G.1 19 gc19 rfl).1
  obtain ⟨ha, -, la7, ca7⟩ := ai_of (hp := hp) (a := 20) (t := 1) (n := 8) (G.1 20 gc20 rfl).1
  obtain ⟨pa, -, la8, ca8⟩ := ai_of (hp := hp) (a := 21) (t := 1) (n := 8) (G.1 21 gc21 rfl).1
  obtain ⟨bl, -, la9, ca9⟩ := ai_of (hp := hp) (a := 22) (t := 1) (n := 8) (G.1 22 gc22 rfl).1
  obtain ⟨c0, c1, c2, c3, c4, e23⟩ := oc_23 G
  obtain ⟨a1, -, k1, y1⟩ := ai_of (hp := hp) (a := 24) (t := 1) (n := 7) (G.1 24 gc24 rfl).1
  obtain ⟨a2, -, k2, y2⟩ := ai_of (hp := hp) (a := 25) (t := 1) (n := 7) (G.1 25 gc25 rfl).1
  obtain ⟨a3, -, k3, y3⟩ := ai_of (hp := hp) (a := 26) (t := 1) (n := 7) (G.1 26 gc26 rfl).1
  obtain ⟨a4, -, k4, y4⟩ := ai_of (hp := hp) (a := 27) (t := 1) (n := 7) (G.1 27 gc27 rfl).1
  obtain ⟨a5, -, k5, y5⟩ := ai_of (hp := hp) (a := 28) (t := 1) (n := 7) (G.1 28 gc28 rfl).1
  obtain ⟨a6, -, k6, y6⟩ := ai_of (hp := hp) (a := 29) (t := 1) (n := 7) (G.1 29 gc29 rfl).1
  obtain ⟨a7, -, k7, y7⟩ := ai_of (hp := hp) (a := 30) (t := 1) (n := 8) (G.1 30 gc30 rfl).1
  obtain ⟨q1, q2, e39⟩ := oc_39 G
  obtain ⟨u0, u1, ese⟩ := oc_110 G
  obtain ⟨nw, -, kw, e182⟩ := ai_of (hp := hp) (a := 182) (t := 1) (n := 396) (G.1 182 gc182 rfl).1
  obtain ⟨nz, -, kz, e187⟩ := al_of (hp := hp) (a := 187) (t := 2) (n := 15) (G.1 187 gc187 rfl).1
  obtain ⟨rd, -, lr, e183⟩ := ai_of (hp := hp) (a := 183) (t := 1) (n := 101) (G.1 183 gc183 rfl).1
  obtain ⟨rn, -, ln, e188⟩ := al_of (hp := hp) (a := 188) (t := 2) (n := 15) (G.1 188 gc188 rfl).1
  obtain ⟨on, -, lo, e191⟩ := ai_of (hp := hp) (a := 191) (t := 3) (n := 3) (G.1 191 gc191 rfl).1
  obtain ⟨B, hB, hM, hb⟩ := tp_B tp
  have o1 : ov hp ((0, .inr (10, [.ref 1, .ref 3, .ref 13, .ref 23, .ref 31, .ref 39, .ref 105, .ref 110, .ref ss, .ref 120, .ref 125, .ref 129, .ref 131, .int lt, .int fb, .int tq, .int gb])) :: (1, tcl n lim a kd pl w le nu tk fa fp) :: (2, bcl bs) :: [(13, dcl13 P Dn lw cl id gl bo), (14, lng pn), (15, ia ri), (16, ia lf), (17, ia wa), (18, ia fo), (19, lng dn), (20, ia ha), (21, ia pa), (22, ia bl), (23, .inr (3, [.int c0, .int c1, .int c2, .int c3, .int c4, .ref 24, .ref 25, .ref 26, .ref 27, .ref 28, .ref 29, .ref 30])), (24, ia a1), (25, ia a2), (26, ia a3), (27, ia a4), (28, ia a5), (29, ia a6), (30, ia a7), (39, .inr (6, [.ref 40, .int q1, .int q2])), (110, .inr (7, [.int u0, .int u1, .ref 111, .ref 112, .ref 113, .ref 114]))]) = hp := ov_id e0 (ov_id e1 (ov_id e2 (ov_id eb (ov_id ca1 (ov_id ca2 (ov_id ca3 (ov_id ca4 (ov_id ca5 (ov_id ca6 (ov_id ca7 (ov_id ca8 (ov_id ca9 (ov_id e23 (ov_id y1 (ov_id y2 (ov_id y3 (ov_id y4 (ov_id y5 (ov_id y6 (ov_id y7 (ov_id e39 (ov_c1 ese))))))))))))))))))))))
  rcases dd13_110 (P := P) (Dn := Dn) (lw := lw) (cl := cl) (id := id) (gl := gl) (bo := bo) (lt := lt) (fb := fb) (tq := tq) (gb := gb) (q1 := q1) (q2 := q2) (sm := sm) (pr := pr) (ss := ss) (n := n) (lim0 := lim) (a0 := a) (kd0 := kd) (pl0 := pl) (w0 := w) (le0 := le) (nu0 := nu) (tk0 := tk) (fa0 := fa) (fp0 := fp) (sz1 := sz) (lim1 := lim2) (a1x := am) (fr1 := fr) (kd1 := kd2) (p1 := p0) (nu1 := nu2) (sg1 := sg) (fa1 := fa2) (pl1 := pl2) (td1 := td) (wd1 := wd) (c0 := c0) (c1 := c1) (c2 := c2) (c3 := c3) (c4 := c4) (e0 := u0) (e1 := u1) hB hM hb hn ⟨la1, la2, la3, la4, la5, la6, la7, la8, la9⟩ lr ln lo k1 k2 k3 k4 k5 k6 k7 kw kz with ⟨pl9, kk, T2, M2, D2, R2, j1, j2, ⟨tl, ta, tkd, tw, tle, tnu, ttk, tfp, rfl⟩, ⟨msz, ml, ma, mfr, mkd, mnu, msg, mqm, mtd, mwd, rfl⟩, s1, s2, hx, hm⟩ | ⟨ln2, T2, M2, D2, R2, gl2, nw2, nz2, ⟨tl, ta, tkd, tpl, tw, tle, tnu, ttk, tfp, rfl⟩, ⟨msz, ml, ma, mfr, mkd, mnu, msg, mqm, mtd, mwd, rfl⟩, m1, m2, ⟨vy0, vy1, vy2, vy3, vy4, vy5, vy6, vy7, vy8, vy9, vy10, vy11, vy12, vy13, vy14, vy15, vy16, vy17, vy18, rfl, rfl, lr5, ln5, df, w3, w4⟩, hx, hm⟩
  · obtain ⟨vy0, vy1, vy2, vy3, vy4, vy5, vy6, vy7, vy8, vy9, vy10, vy11, vy12, vy13, vy14, vy15, rfl⟩ := s1
    obtain ⟨vy16, vy17, vy18, rfl⟩ := s2
    have hx := FR_at o1 (hx hp hlen)
    obtain ⟨q3, q4⟩ := vi_inj (FR.det f1 hx)
    have hl2 : Nat.ble 204 hc.length = true := by
      rw [q4]
      exact ov_hl hlen
    have w_e182 := ov_q q4 e182 rfl
    have w_e187 := ov_q q4 e187 rfl
    have w_e191 := ov_q q4 e191 rfl
    have w_e188 := ov_q q4 e188 rfl
    have w_e183 := ov_q q4 e183 rfl
    have w_e181 := ov_q q4 e181 rfl
    have w_e180 := ov_q q4 e180 rfl
    have hm := FR_at (ov_id w_e182 (ov_id w_e187 (ov_id w_e191 (ov_id w_e188 (ov_id w_e183 (ov_id w_e181 (ov_c1 w_e180))))))) (hm hc hl2)
    obtain ⟨q5, q6⟩ := vi_inj (FR.det f2 hm)
    clear hm hl2 f1 f2 hx w_e182 w_e187 w_e191 w_e188 w_e183 w_e181 w_e180
    subst q6
    subst q4
    refine ⟨q5.trans q3.symm, ⟨bs, ts, (ov_no rfl).trans (ov_at rfl (ov_lt hlen (by decide))), ov_at rfl (ov_lt (ov_hl hlen) (by decide)), tp⟩, Or.inl ⟨(hq_obj ((ov_no rfl).trans (ov_at rfl (ov_lt hlen (by decide))))).trans rfl, (hq_obj ((ov_no rfl).trans (ov_at rfl (ov_lt hlen (by decide))))).trans rfl, dh3_keep (cas10 (m := 3) (ce_same ((ov_no rfl).trans (ov_no rfl))) (ce_same ((ov_no rfl).trans (ov_no rfl))) (ce_same ((ov_no rfl).trans (ov_no rfl))) (ce_same ((ov_no rfl).trans (ov_no rfl))) (ce_same ((ov_no rfl).trans (ov_no rfl))) (ce_same ((ov_no rfl).trans (ov_no rfl))) (ce_same ((ov_no rfl).trans (ov_no rfl))) (ce_same ((ov_no rfl).trans (ov_no rfl))) (ce_same ((ov_no rfl).trans (ov_no rfl))) (ce_same ((ov_no rfl).trans (ov_no rfl)))) (fun j hj => (ce_same ((ov_no rfl).trans (ov_no rfl))).2 _) (fun j hj => (ce_same ((ov_no rfl).trans (ov_no rfl))).2 _) hD⟩, Int32.ofNat kk, (hq_obj ((ov_no rfl).trans (ov_at rfl (ov_lt hlen (by decide))))).trans rfl, (hq_obj (ov_at rfl (ov_lt (ov_hl hlen) (by decide)))).trans rfl⟩
  · have hx := FR_at o1 (hx hp hlen)
    obtain ⟨q3, q4⟩ := vi_inj (FR.det f1 hx)
    have hl2 : Nat.ble 204 hc.length = true := by
      rw [q4]
      exact ov_hl hlen
    have w_e182 := ov_q q4 e182 rfl
    have w_e187 := ov_q q4 e187 rfl
    have w_e191 := ov_q q4 e191 rfl
    have w_e188 := ov_q q4 e188 rfl
    have w_e183 := ov_q q4 e183 rfl
    have w_e181 := ov_q q4 e181 rfl
    have w_e180 := ov_q q4 e180 rfl
    have hm := FR_at (ov_id w_e182 (ov_id w_e187 (ov_id w_e191 (ov_id w_e188 (ov_id w_e183 (ov_id w_e181 (ov_c1 w_e180))))))) (hm hc hl2)
    obtain ⟨q5, q6⟩ := vi_inj (FR.det f2 hm)
    clear hm f1 f2 hx w_e182 w_e187 w_e191 w_e188 w_e183 w_e181 w_e180
    refine ⟨q5.trans q3.symm, ⟨bs, ts, ov_q q6 (ov_qa q4 rfl hlen rfl) rfl, ov_qa q6 rfl hl2 rfl, tp⟩, Or.inr ⟨(hq_obj (ov_q q6 (ov_qa q4 rfl hlen rfl) rfl)).trans rfl, (hq_obj (ov_q q6 (ov_qa q4 rfl hlen rfl) rfl)).trans rfl, vy0, vy1, vy2, vy3, vy4, vy5, vy6, vy7, vy8, vy9, vy10, vy11, vy12, vy13, vy14, vy15, vy16, vy17, ov_q q6 (ov_qa q4 rfl hlen rfl) rfl, ov_q q6 (ov_qa q4 rfl hlen rfl) rfl, ov_q q6 (ov_qa q4 rfl hlen rfl) rfl, ov_q q6 (ov_qa q4 rfl hlen rfl) rfl, ov_q q6 (ov_qa q4 rfl hlen rfl) rfl, ov_q q6 (ov_qa q4 rfl hlen rfl) rfl, ov_q q6 (ov_qa q4 rfl hlen rfl) rfl, ov_q q6 (ov_qa q4 rfl hlen rfl) rfl, ov_q q6 (ov_qa q4 rfl hlen rfl) rfl, ov_q q6 (ov_qa q4 rfl hlen rfl) rfl, lr5, ln5, df, fun j hj => ?_, fun j hj => ?_⟩, Int32.ofNat 0, (hq_obj (ov_q q6 (ov_qa q4 rfl hlen rfl) rfl)).trans rfl, (hq_obj (ov_qa q6 rfl hl2 rfl)).trans rfl⟩
    · rw [Nat.zero_add, hq_int (l := nw2) (t := 1) (ov_qa q6 rfl hl2 rfl), w3 j hj]
    · rw [Nat.zero_add, hq_lng (l := nz2) (t := 2) (ov_qa q6 rfl hl2 rfl), w4 j hj]
theorem ddu13_115 {hp hc hd : List AE} {r r2 : Int32} {k1 k2 : Nat} (G : hp_ok GG hp) (hlen : Nat.ble 204 hp.length = true) (hT : TPH hp) (hz : ∃ z : Int32, hq hp 1 1 = some (.int z) ∧ hq hp 180 2 = some (.int z)) (h0d : hq hp 0 1 = some (.ref 3)) (h0s : hq hp 0 2 = some (.ref 13)) (hse : hq hp 0 7 = some (.ref 115)) (hD : DH3 hp 182 0 187 0) (f1 : FR k1 14 [.ref 0] hp (some (.int r), hc)) (f2 : FR k2 195 [.ref 180] hc (some (.int r2), hd)) : r2 = r ∧ TPH hd ∧ CUR hd ∧ FLT hd := by
  obtain ⟨d, s, se, ss, lt, fb, tq, gb, e0, hd0, hs0, hse0, hss0⟩ := oc_0 G
  obtain ⟨n, lim, a, kd, pl, w, le, nu, tk, fa, fp, e1, hn, hw⟩ := oc_1 G
  obtain ⟨bs, ts, e2, e181, tp⟩ := hT
  obtain ⟨p0, n2, sz, lim2, am, fr, kd2, nu2, sg, fa2, pl2, wd, td, sm, pr, e180, hn2⟩ := oc_180 G
  obtain rfl : n = n2 := by
    obtain ⟨z, z1, z2⟩ := hz
    rw [hq_obj e1] at z1
    rw [hq_obj e180] at z2
    have y1 : some (Value.int (Int32.ofNat n)) = some (.int z) := z1
    have y2 : some (Value.int (Int32.ofNat n2)) = some (.int z) := z2
    have e := congrArg Int32.toInt (Value.int.inj (Option.some.inj (y1.trans y2.symm)))
    rw [n_int (by omega), n_int (by omega)] at e
    omega
  rw [hq_obj e0] at h0d h0s hse
  have h0d : some (Value.ref d) = some (.ref 3) := h0d
  have h0s : some (Value.ref s) = some (.ref 13) := h0s
  have hse : some (Value.ref se) = some (.ref 115) := hse
  obtain rfl := Value.ref.inj (Option.some.inj h0d)
  obtain rfl := Value.ref.inj (Option.some.inj h0s)
  obtain rfl := Value.ref.inj (Option.some.inj hse)
  obtain ⟨P, Dn, lw, cl, id, gl, bo, eb, hP, hDn⟩ := oc_13 G
  obtain ⟨pn, -, la1, ca1⟩ := al_of (hp := hp) (a := 14) (t := 2) (n := 7) (G.1 14 gc14 rfl).1
  obtain ⟨ri, -, la2, ca2⟩ := ai_of (hp := hp) (a := 15) (t := 1) (n := 7) (G.1 15 gc15 rfl).1
  obtain ⟨lf, -, la3, ca3⟩ := ai_of (hp := hp) (a := 16) (t := 1) (n := 7) (G.1 16 gc16 rfl).1
  obtain ⟨wa, -, la4, ca4⟩ := ai_of (hp := hp) (a := 17) (t := 1) (n := 7) (G.1 17 gc17 rfl).1
  obtain ⟨fo, -, la5, ca5⟩ := ai_of (hp := hp) (a := 18) (t := 1) (n := 49) (G.1 18 gc18 rfl).1
  obtain ⟨dn, -, la6, ca6⟩ := al_of (hp := hp) (a := 19) (t := 2) (n := 8) (G.1 19 gc19 rfl).1
  obtain ⟨ha, -, la7, ca7⟩ := ai_of (hp := hp) (a := 20) (t := 1) (n := 8) (G.1 20 gc20 rfl).1
  obtain ⟨pa, -, la8, ca8⟩ := ai_of (hp := hp) (a := 21) (t := 1) (n := 8) (G.1 21 gc21 rfl).1
  obtain ⟨bl, -, la9, ca9⟩ := ai_of (hp := hp) (a := 22) (t := 1) (n := 8) (G.1 22 gc22 rfl).1
  obtain ⟨c0, c1, c2, c3, c4, e23⟩ := oc_23 G
  obtain ⟨a1, -, k1, y1⟩ := ai_of (hp := hp) (a := 24) (t := 1) (n := 7) (G.1 24 gc24 rfl).1
  obtain ⟨a2, -, k2, y2⟩ := ai_of (hp := hp) (a := 25) (t := 1) (n := 7) (G.1 25 gc25 rfl).1
  obtain ⟨a3, -, k3, y3⟩ := ai_of (hp := hp) (a := 26) (t := 1) (n := 7) (G.1 26 gc26 rfl).1
  obtain ⟨a4, -, k4, y4⟩ := ai_of (hp := hp) (a := 27) (t := 1) (n := 7) (G.1 27 gc27 rfl).1
  obtain ⟨a5, -, k5, y5⟩ := ai_of (hp := hp) (a := 28) (t := 1) (n := 7) (G.1 28 gc28 rfl).1
  obtain ⟨a6, -, k6, y6⟩ := ai_of (hp := hp) (a := 29) (t := 1) (n := 7) (G.1 29 gc29 rfl).1
  obtain ⟨a7, -, k7, y7⟩ := ai_of (hp := hp) (a := 30) (t := 1) (n := 8) (G.1 30 gc30 rfl).1
  obtain ⟨q1, q2, e39⟩ := oc_39 G
  obtain ⟨u0, u1, ese⟩ := oc_115 G
  obtain ⟨nw, -, kw, e182⟩ := ai_of (hp := hp) (a := 182) (t := 1) (n := 396) (G.1 182 gc182 rfl).1
  obtain ⟨nz, -, kz, e187⟩ := al_of (hp := hp) (a := 187) (t := 2) (n := 15) (G.1 187 gc187 rfl).1
  obtain ⟨rd, -, lr, e183⟩ := ai_of (hp := hp) (a := 183) (t := 1) (n := 101) (G.1 183 gc183 rfl).1
  obtain ⟨rn, -, ln, e188⟩ := al_of (hp := hp) (a := 188) (t := 2) (n := 15) (G.1 188 gc188 rfl).1
  obtain ⟨on, -, lo, e191⟩ := ai_of (hp := hp) (a := 191) (t := 3) (n := 3) (G.1 191 gc191 rfl).1
  obtain ⟨B, hB, hM, hb⟩ := tp_B tp
  have o1 : ov hp ((0, .inr (10, [.ref 1, .ref 3, .ref 13, .ref 23, .ref 31, .ref 39, .ref 105, .ref 115, .ref ss, .ref 120, .ref 125, .ref 129, .ref 131, .int lt, .int fb, .int tq, .int gb])) :: (1, tcl n lim a kd pl w le nu tk fa fp) :: (2, bcl bs) :: [(13, dcl13 P Dn lw cl id gl bo), (14, lng pn), (15, ia ri), (16, ia lf), (17, ia wa), (18, ia fo), (19, lng dn), (20, ia ha), (21, ia pa), (22, ia bl), (23, .inr (3, [.int c0, .int c1, .int c2, .int c3, .int c4, .ref 24, .ref 25, .ref 26, .ref 27, .ref 28, .ref 29, .ref 30])), (24, ia a1), (25, ia a2), (26, ia a3), (27, ia a4), (28, ia a5), (29, ia a6), (30, ia a7), (39, .inr (6, [.ref 40, .int q1, .int q2])), (115, .inr (7, [.int u0, .int u1, .ref 116, .ref 117, .ref 118, .ref 119]))]) = hp := ov_id e0 (ov_id e1 (ov_id e2 (ov_id eb (ov_id ca1 (ov_id ca2 (ov_id ca3 (ov_id ca4 (ov_id ca5 (ov_id ca6 (ov_id ca7 (ov_id ca8 (ov_id ca9 (ov_id e23 (ov_id y1 (ov_id y2 (ov_id y3 (ov_id y4 (ov_id y5 (ov_id y6 (ov_id y7 (ov_id e39 (ov_c1 ese))))))))))))))))))))))
  rcases dd13_115 (P := P) (Dn := Dn) (lw := lw) (cl := cl) (id := id) (gl := gl) (bo := bo) (lt := lt) (fb := fb) (tq := tq) (gb := gb) (q1 := q1) (q2 := q2) (sm := sm) (pr := pr) (ss := ss) (n := n) (lim0 := lim) (a0 := a) (kd0 := kd) (pl0 := pl) (w0 := w) (le0 := le) (nu0 := nu) (tk0 := tk) (fa0 := fa) (fp0 := fp) (sz1 := sz) (lim1 := lim2) (a1x := am) (fr1 := fr) (kd1 := kd2) (p1 := p0) (nu1 := nu2) (sg1 := sg) (fa1 := fa2) (pl1 := pl2) (td1 := td) (wd1 := wd) (c0 := c0) (c1 := c1) (c2 := c2) (c3 := c3) (c4 := c4) (e0 := u0) (e1 := u1) hB hM hb hn ⟨la1, la2, la3, la4, la5, la6, la7, la8, la9⟩ lr ln lo k1 k2 k3 k4 k5 k6 k7 kw kz with ⟨pl9, kk, T2, M2, D2, R2, j1, j2, ⟨tl, ta, tkd, tw, tle, tnu, ttk, tfp, rfl⟩, ⟨msz, ml, ma, mfr, mkd, mnu, msg, mqm, mtd, mwd, rfl⟩, s1, s2, hx, hm⟩ | ⟨ln2, T2, M2, D2, R2, gl2, nw2, nz2, ⟨tl, ta, tkd, tpl, tw, tle, tnu, ttk, tfp, rfl⟩, ⟨msz, ml, ma, mfr, mkd, mnu, msg, mqm, mtd, mwd, rfl⟩, m1, m2, ⟨vy0, vy1, vy2, vy3, vy4, vy5, vy6, vy7, vy8, vy9, vy10, vy11, vy12, vy13, vy14, vy15, vy16, vy17, vy18, rfl, rfl, lr5, ln5, df, w3, w4⟩, hx, hm⟩
  · obtain ⟨vy0, vy1, vy2, vy3, vy4, vy5, vy6, vy7, vy8, vy9, vy10, vy11, vy12, vy13, vy14, vy15, rfl⟩ := s1
    obtain ⟨vy16, vy17, vy18, rfl⟩ := s2
    have hx := FR_at o1 (hx hp hlen)
    obtain ⟨q3, q4⟩ := vi_inj (FR.det f1 hx)
    have hl2 : Nat.ble 204 hc.length = true := by
      rw [q4]
      exact ov_hl hlen
    have w_e182 := ov_q q4 e182 rfl
    have w_e187 := ov_q q4 e187 rfl
    have w_e191 := ov_q q4 e191 rfl
    have w_e188 := ov_q q4 e188 rfl
    have w_e183 := ov_q q4 e183 rfl
    have w_e181 := ov_q q4 e181 rfl
    have w_e180 := ov_q q4 e180 rfl
    have hm := FR_at (ov_id w_e182 (ov_id w_e187 (ov_id w_e191 (ov_id w_e188 (ov_id w_e183 (ov_id w_e181 (ov_c1 w_e180))))))) (hm hc hl2)
    obtain ⟨q5, q6⟩ := vi_inj (FR.det f2 hm)
    clear hm hl2 f1 f2 hx w_e182 w_e187 w_e191 w_e188 w_e183 w_e181 w_e180
    subst q6
    subst q4
    refine ⟨q5.trans q3.symm, ⟨bs, ts, (ov_no rfl).trans (ov_at rfl (ov_lt hlen (by decide))), ov_at rfl (ov_lt (ov_hl hlen) (by decide)), tp⟩, Or.inl ⟨(hq_obj ((ov_no rfl).trans (ov_at rfl (ov_lt hlen (by decide))))).trans rfl, (hq_obj ((ov_no rfl).trans (ov_at rfl (ov_lt hlen (by decide))))).trans rfl, dh3_keep (cas10 (m := 3) (ce_same ((ov_no rfl).trans (ov_no rfl))) (ce_same ((ov_no rfl).trans (ov_no rfl))) (ce_same ((ov_no rfl).trans (ov_no rfl))) (ce_same ((ov_no rfl).trans (ov_no rfl))) (ce_same ((ov_no rfl).trans (ov_no rfl))) (ce_same ((ov_no rfl).trans (ov_no rfl))) (ce_same ((ov_no rfl).trans (ov_no rfl))) (ce_same ((ov_no rfl).trans (ov_no rfl))) (ce_same ((ov_no rfl).trans (ov_no rfl))) (ce_same ((ov_no rfl).trans (ov_no rfl)))) (fun j hj => (ce_same ((ov_no rfl).trans (ov_no rfl))).2 _) (fun j hj => (ce_same ((ov_no rfl).trans (ov_no rfl))).2 _) hD⟩, Int32.ofNat kk, (hq_obj ((ov_no rfl).trans (ov_at rfl (ov_lt hlen (by decide))))).trans rfl, (hq_obj (ov_at rfl (ov_lt (ov_hl hlen) (by decide)))).trans rfl⟩
  · have hx := FR_at o1 (hx hp hlen)
    obtain ⟨q3, q4⟩ := vi_inj (FR.det f1 hx)
    have hl2 : Nat.ble 204 hc.length = true := by
      rw [q4]
      exact ov_hl hlen
    have w_e182 := ov_q q4 e182 rfl
    have w_e187 := ov_q q4 e187 rfl
    have w_e191 := ov_q q4 e191 rfl
    have w_e188 := ov_q q4 e188 rfl
    have w_e183 := ov_q q4 e183 rfl
    have w_e181 := ov_q q4 e181 rfl
    have w_e180 := ov_q q4 e180 rfl
    have hm := FR_at (ov_id w_e182 (ov_id w_e187 (ov_id w_e191 (ov_id w_e188 (ov_id w_e183 (ov_id w_e181 (ov_c1 w_e180))))))) (hm hc hl2)
    obtain ⟨q5, q6⟩ := vi_inj (FR.det f2 hm)
    clear hm f1 f2 hx w_e182 w_e187 w_e191 w_e188 w_e183 w_e181 w_e180
    refine ⟨q5.trans q3.symm, ⟨bs, ts, ov_q q6 (ov_qa q4 rfl hlen rfl) rfl, ov_qa q6 rfl hl2 rfl, tp⟩, Or.inr ⟨(hq_obj (ov_q q6 (ov_qa q4 rfl hlen rfl) rfl)).trans rfl, (hq_obj (ov_q q6 (ov_qa q4 rfl hlen rfl) rfl)).trans rfl, vy0, vy1, vy2, vy3, vy4, vy5, vy6, vy7, vy8, vy9, vy10, vy11, vy12, vy13, vy14, vy15, vy16, vy17, ov_q q6 (ov_qa q4 rfl hlen rfl) rfl, ov_q q6 (ov_qa q4 rfl hlen rfl) rfl, ov_q q6 (ov_qa q4 rfl hlen rfl) rfl, ov_q q6 (ov_qa q4 rfl hlen rfl) rfl, ov_q q6 (ov_qa q4 rfl hlen rfl) rfl, ov_q q6 (ov_qa q4 rfl hlen rfl) rfl, ov_q q6 (ov_qa q4 rfl hlen rfl) rfl, ov_q q6 (ov_qa q4 rfl hlen rfl) rfl, ov_q q6 (ov_qa q4 rfl hlen rfl) rfl, ov_q q6 (ov_qa q4 rfl hlen rfl) rfl, lr5, ln5, df, fun j hj => ?_, fun j hj => ?_⟩, Int32.ofNat 0, (hq_obj (ov_q q6 (ov_qa q4 rfl hlen rfl) rfl)).trans rfl, (hq_obj (ov_qa q6 rfl hl2 rfl)).trans rfl⟩
    · rw [Nat.zero_add, hq_int (l := nw2) (t := 1) (ov_qa q6 rfl hl2 rfl), w3 j hj]
    · rw [Nat.zero_add, hq_lng (l := nz2) (t := 2) (ov_qa q6 rfl hl2 rfl), w4 j hj]
theorem ddu3_110 {hp hc hd : List AE} {r r2 : Int32} {k1 k2 : Nat} (G : hp_ok GG hp) (hlen : Nat.ble 204 hp.length = true) (hT : TPH hp) (hz : ∃ z : Int32, hq hp 1 1 = some (.int z) ∧ hq hp 180 2 = some (.int z)) (h0d : hq hp 0 1 = some (.ref 13)) (h0s : hq hp 0 2 = some (.ref 3)) (hse : hq hp 0 7 = some (.ref 110)) (hD : DH13 hp 182 0 187 0) (f1 : FR k1 14 [.ref 0] hp (some (.int r), hc)) (f2 : FR k2 195 [.ref 180] hc (some (.int r2), hd)) : r2 = r ∧ TPH hd ∧ CUR hd ∧ FLT hd := by
  obtain ⟨d, s, se, ss, lt, fb, tq, gb, e0, hd0, hs0, hse0, hss0⟩ := oc_0 G
  obtain ⟨n, lim, a, kd, pl, w, le, nu, tk, fa, fp, e1, hn, hw⟩ := oc_1 G
  obtain ⟨bs, ts, e2, e181, tp⟩ := hT
  obtain ⟨p0, n2, sz, lim2, am, fr, kd2, nu2, sg, fa2, pl2, wd, td, sm, pr, e180, hn2⟩ := oc_180 G
  obtain rfl : n = n2 := by
    obtain ⟨z, z1, z2⟩ := hz
    rw [hq_obj e1] at z1
    rw [hq_obj e180] at z2
    have y1 : some (Value.int (Int32.ofNat n)) = some (.int z) := z1
    have y2 : some (Value.int (Int32.ofNat n2)) = some (.int z) := z2
    have e := congrArg Int32.toInt (Value.int.inj (Option.some.inj (y1.trans y2.symm)))
    rw [n_int (by omega), n_int (by omega)] at e
    omega
  rw [hq_obj e0] at h0d h0s hse
  have h0d : some (Value.ref d) = some (.ref 13) := h0d
  have h0s : some (Value.ref s) = some (.ref 3) := h0s
  have hse : some (Value.ref se) = some (.ref 110) := hse
  obtain rfl := Value.ref.inj (Option.some.inj h0d)
  obtain rfl := Value.ref.inj (Option.some.inj h0s)
  obtain rfl := Value.ref.inj (Option.some.inj hse)
  obtain ⟨P, Dn, lw, cl, id, gl, bo, eb, hP, hDn⟩ := oc_3 G
  obtain ⟨pn, -, la1, ca1⟩ := al_of (hp := hp) (a := 4) (t := 2) (n := 7) (G.1 4 gc4 rfl).1
  obtain ⟨ri, -, la2, ca2⟩ := ai_of (hp := hp) (a := 5) (t := 1) (n := 7) (G.1 5 gc5 rfl).1
  obtain ⟨lf, -, la3, ca3⟩ := ai_of (hp := hp) (a := 6) (t := 1) (n := 7) (G.1 6 gc6 rfl).1
  obtain ⟨wa, -, la4, ca4⟩ := ai_of (hp := hp) (a := 7) (t := 1) (n := 7) (G.1 7 gc7 rfl).1
  obtain ⟨fo, -, la5, ca5⟩ := ai_of (hp := hp) (a := 8) (t := 1) (n := 49) (G.1 8 gc8 rfl).1
  obtain ⟨dn, -, la6, ca6⟩ := al_of (hp := hp) (a := 9) (t := 2) (n := 8) (G.1 9 gc9 rfl).1
  obtain ⟨ha, -, la7, ca7⟩ := ai_of (hp := hp) (a := 10) (t := 1) (n := 8) (G.1 10 gc10 rfl).1
  obtain ⟨pa, -, la8, ca8⟩ := ai_of (hp := hp) (a := 11) (t := 1) (n := 8) (G.1 11 gc11 rfl).1
  obtain ⟨bl, -, la9, ca9⟩ := ai_of (hp := hp) (a := 12) (t := 1) (n := 8) (G.1 12 gc12 rfl).1
  obtain ⟨c0, c1, c2, c3, c4, e23⟩ := oc_23 G
  obtain ⟨a1, -, k1, y1⟩ := ai_of (hp := hp) (a := 24) (t := 1) (n := 7) (G.1 24 gc24 rfl).1
  obtain ⟨a2, -, k2, y2⟩ := ai_of (hp := hp) (a := 25) (t := 1) (n := 7) (G.1 25 gc25 rfl).1
  obtain ⟨a3, -, k3, y3⟩ := ai_of (hp := hp) (a := 26) (t := 1) (n := 7) (G.1 26 gc26 rfl).1
  obtain ⟨a4, -, k4, y4⟩ := ai_of (hp := hp) (a := 27) (t := 1) (n := 7) (G.1 27 gc27 rfl).1
  obtain ⟨a5, -, k5, y5⟩ := ai_of (hp := hp) (a := 28) (t := 1) (n := 7) (G.1 28 gc28 rfl).1
  obtain ⟨a6, -, k6, y6⟩ := ai_of (hp := hp) (a := 29) (t := 1) (n := 7) (G.1 29 gc29 rfl).1
  obtain ⟨a7, -, k7, y7⟩ := ai_of (hp := hp) (a := 30) (t := 1) (n := 8) (G.1 30 gc30 rfl).1
  obtain ⟨q1, q2, e39⟩ := oc_39 G
  obtain ⟨u0, u1, ese⟩ := oc_110 G
  obtain ⟨nw, -, kw, e182⟩ := ai_of (hp := hp) (a := 182) (t := 1) (n := 396) (G.1 182 gc182 rfl).1
  obtain ⟨nz, -, kz, e187⟩ := al_of (hp := hp) (a := 187) (t := 2) (n := 15) (G.1 187 gc187 rfl).1
  obtain ⟨rd, -, lr, e183⟩ := ai_of (hp := hp) (a := 183) (t := 1) (n := 101) (G.1 183 gc183 rfl).1
  obtain ⟨rn, -, ln, e188⟩ := al_of (hp := hp) (a := 188) (t := 2) (n := 15) (G.1 188 gc188 rfl).1
  obtain ⟨on, -, lo, e191⟩ := ai_of (hp := hp) (a := 191) (t := 3) (n := 3) (G.1 191 gc191 rfl).1
  obtain ⟨B, hB, hM, hb⟩ := tp_B tp
  have o1 : ov hp ((0, .inr (10, [.ref 1, .ref 13, .ref 3, .ref 23, .ref 31, .ref 39, .ref 105, .ref 110, .ref ss, .ref 120, .ref 125, .ref 129, .ref 131, .int lt, .int fb, .int tq, .int gb])) :: (1, tcl n lim a kd pl w le nu tk fa fp) :: (2, bcl bs) :: [(3, dcl3 P Dn lw cl id gl bo), (4, lng pn), (5, ia ri), (6, ia lf), (7, ia wa), (8, ia fo), (9, lng dn), (10, ia ha), (11, ia pa), (12, ia bl), (23, .inr (3, [.int c0, .int c1, .int c2, .int c3, .int c4, .ref 24, .ref 25, .ref 26, .ref 27, .ref 28, .ref 29, .ref 30])), (24, ia a1), (25, ia a2), (26, ia a3), (27, ia a4), (28, ia a5), (29, ia a6), (30, ia a7), (39, .inr (6, [.ref 40, .int q1, .int q2])), (110, .inr (7, [.int u0, .int u1, .ref 111, .ref 112, .ref 113, .ref 114]))]) = hp := ov_id e0 (ov_id e1 (ov_id e2 (ov_id eb (ov_id ca1 (ov_id ca2 (ov_id ca3 (ov_id ca4 (ov_id ca5 (ov_id ca6 (ov_id ca7 (ov_id ca8 (ov_id ca9 (ov_id e23 (ov_id y1 (ov_id y2 (ov_id y3 (ov_id y4 (ov_id y5 (ov_id y6 (ov_id y7 (ov_id e39 (ov_c1 ese))))))))))))))))))))))
  rcases dd3_110 (P := P) (Dn := Dn) (lw := lw) (cl := cl) (id := id) (gl := gl) (bo := bo) (lt := lt) (fb := fb) (tq := tq) (gb := gb) (q1 := q1) (q2 := q2) (sm := sm) (pr := pr) (ss := ss) (n := n) (lim0 := lim) (a0 := a) (kd0 := kd) (pl0 := pl) (w0 := w) (le0 := le) (nu0 := nu) (tk0 := tk) (fa0 := fa) (fp0 := fp) (sz1 := sz) (lim1 := lim2) (a1x := am) (fr1 := fr) (kd1 := kd2) (p1 := p0) (nu1 := nu2) (sg1 := sg) (fa1 := fa2) (pl1 := pl2) (td1 := td) (wd1 := wd) (c0 := c0) (c1 := c1) (c2 := c2) (c3 := c3) (c4 := c4) (e0 := u0) (e1 := u1) hB hM hb hn ⟨la1, la2, la3, la4, la5, la6, la7, la8, la9⟩ lr ln lo k1 k2 k3 k4 k5 k6 k7 kw kz with ⟨pl9, kk, T2, M2, D2, R2, j1, j2, ⟨tl, ta, tkd, tw, tle, tnu, ttk, tfp, rfl⟩, ⟨msz, ml, ma, mfr, mkd, mnu, msg, mqm, mtd, mwd, rfl⟩, s1, s2, hx, hm⟩ | ⟨ln2, T2, M2, D2, R2, gl2, nw2, nz2, ⟨tl, ta, tkd, tpl, tw, tle, tnu, ttk, tfp, rfl⟩, ⟨msz, ml, ma, mfr, mkd, mnu, msg, mqm, mtd, mwd, rfl⟩, m1, m2, ⟨vy0, vy1, vy2, vy3, vy4, vy5, vy6, vy7, vy8, vy9, vy10, vy11, vy12, vy13, vy14, vy15, vy16, vy17, vy18, rfl, rfl, lr5, ln5, df, w3, w4⟩, hx, hm⟩
  · obtain ⟨vy0, vy1, vy2, vy3, vy4, vy5, vy6, vy7, vy8, vy9, vy10, vy11, vy12, vy13, vy14, vy15, rfl⟩ := s1
    obtain ⟨vy16, vy17, vy18, rfl⟩ := s2
    have hx := FR_at o1 (hx hp hlen)
    obtain ⟨q3, q4⟩ := vi_inj (FR.det f1 hx)
    have hl2 : Nat.ble 204 hc.length = true := by
      rw [q4]
      exact ov_hl hlen
    have w_e182 := ov_q q4 e182 rfl
    have w_e187 := ov_q q4 e187 rfl
    have w_e191 := ov_q q4 e191 rfl
    have w_e188 := ov_q q4 e188 rfl
    have w_e183 := ov_q q4 e183 rfl
    have w_e181 := ov_q q4 e181 rfl
    have w_e180 := ov_q q4 e180 rfl
    have hm := FR_at (ov_id w_e182 (ov_id w_e187 (ov_id w_e191 (ov_id w_e188 (ov_id w_e183 (ov_id w_e181 (ov_c1 w_e180))))))) (hm hc hl2)
    obtain ⟨q5, q6⟩ := vi_inj (FR.det f2 hm)
    clear hm hl2 f1 f2 hx w_e182 w_e187 w_e191 w_e188 w_e183 w_e181 w_e180
    subst q6
    subst q4
    refine ⟨q5.trans q3.symm, ⟨bs, ts, (ov_no rfl).trans (ov_at rfl (ov_lt hlen (by decide))), ov_at rfl (ov_lt (ov_hl hlen) (by decide)), tp⟩, Or.inr ⟨(hq_obj ((ov_no rfl).trans (ov_at rfl (ov_lt hlen (by decide))))).trans rfl, (hq_obj ((ov_no rfl).trans (ov_at rfl (ov_lt hlen (by decide))))).trans rfl, dh13_keep (cas10 (m := 13) (ce_same ((ov_no rfl).trans (ov_no rfl))) (ce_same ((ov_no rfl).trans (ov_no rfl))) (ce_same ((ov_no rfl).trans (ov_no rfl))) (ce_same ((ov_no rfl).trans (ov_no rfl))) (ce_same ((ov_no rfl).trans (ov_no rfl))) (ce_same ((ov_no rfl).trans (ov_no rfl))) (ce_same ((ov_no rfl).trans (ov_no rfl))) (ce_same ((ov_no rfl).trans (ov_no rfl))) (ce_same ((ov_no rfl).trans (ov_no rfl))) (ce_same ((ov_no rfl).trans (ov_no rfl)))) (fun j hj => (ce_same ((ov_no rfl).trans (ov_no rfl))).2 _) (fun j hj => (ce_same ((ov_no rfl).trans (ov_no rfl))).2 _) hD⟩, Int32.ofNat kk, (hq_obj ((ov_no rfl).trans (ov_at rfl (ov_lt hlen (by decide))))).trans rfl, (hq_obj (ov_at rfl (ov_lt (ov_hl hlen) (by decide)))).trans rfl⟩
  · have hx := FR_at o1 (hx hp hlen)
    obtain ⟨q3, q4⟩ := vi_inj (FR.det f1 hx)
    have hl2 : Nat.ble 204 hc.length = true := by
      rw [q4]
      exact ov_hl hlen
    have w_e182 := ov_q q4 e182 rfl
    have w_e187 := ov_q q4 e187 rfl
    have w_e191 := ov_q q4 e191 rfl
    have w_e188 := ov_q q4 e188 rfl
    have w_e183 := ov_q q4 e183 rfl
    have w_e181 := ov_q q4 e181 rfl
    have w_e180 := ov_q q4 e180 rfl
    have hm := FR_at (ov_id w_e182 (ov_id w_e187 (ov_id w_e191 (ov_id w_e188 (ov_id w_e183 (ov_id w_e181 (ov_c1 w_e180))))))) (hm hc hl2)
    obtain ⟨q5, q6⟩ := vi_inj (FR.det f2 hm)
    clear hm f1 f2 hx w_e182 w_e187 w_e191 w_e188 w_e183 w_e181 w_e180
    refine ⟨q5.trans q3.symm, ⟨bs, ts, ov_q q6 (ov_qa q4 rfl hlen rfl) rfl, ov_qa q6 rfl hl2 rfl, tp⟩, Or.inl ⟨(hq_obj (ov_q q6 (ov_qa q4 rfl hlen rfl) rfl)).trans rfl, (hq_obj (ov_q q6 (ov_qa q4 rfl hlen rfl) rfl)).trans rfl, vy0, vy1, vy2, vy3, vy4, vy5, vy6, vy7, vy8, vy9, vy10, vy11, vy12, vy13, vy14, vy15, vy16, vy17, ov_q q6 (ov_qa q4 rfl hlen rfl) rfl, ov_q q6 (ov_qa q4 rfl hlen rfl) rfl, ov_q q6 (ov_qa q4 rfl hlen rfl) rfl, ov_q q6 (ov_qa q4 rfl hlen rfl) rfl, ov_q q6 (ov_qa q4 rfl hlen rfl) rfl, ov_q q6 (ov_qa q4 rfl hlen rfl) rfl, ov_q q6 (ov_qa q4 rfl hlen rfl) rfl, ov_q q6 (ov_qa q4 rfl hlen rfl) rfl, ov_q q6 (ov_qa q4 rfl hlen rfl) rfl, ov_q q6 (ov_qa q4 rfl hlen rfl) rfl, lr5, ln5, df, fun j hj => ?_, fun j hj => ?_⟩, Int32.ofNat 0, (hq_obj (ov_q q6 (ov_qa q4 rfl hlen rfl) rfl)).trans rfl, (hq_obj (ov_qa q6 rfl hl2 rfl)).trans rfl⟩
    · rw [Nat.zero_add, hq_int (l := nw2) (t := 1) (ov_qa q6 rfl hl2 rfl), w3 j hj]
    · rw [Nat.zero_add, hq_lng (l := nz2) (t := 2) (ov_qa q6 rfl hl2 rfl), w4 j hj]
theorem ddu3_115 {hp hc hd : List AE} {r r2 : Int32} {k1 k2 : Nat} (G : hp_ok GG hp) (hlen : Nat.ble 204 hp.length = true) (hT : TPH hp) (hz : ∃ z : Int32, hq hp 1 1 = some (.int z) ∧ hq hp 180 2 = some (.int z)) (h0d : hq hp 0 1 = some (.ref 13)) (h0s : hq hp 0 2 = some (.ref 3)) (hse : hq hp 0 7 = some (.ref 115)) (hD : DH13 hp 182 0 187 0) (f1 : FR k1 14 [.ref 0] hp (some (.int r), hc)) (f2 : FR k2 195 [.ref 180] hc (some (.int r2), hd)) : r2 = r ∧ TPH hd ∧ CUR hd ∧ FLT hd := by
  obtain ⟨d, s, se, ss, lt, fb, tq, gb, e0, hd0, hs0, hse0, hss0⟩ := oc_0 G
  obtain ⟨n, lim, a, kd, pl, w, le, nu, tk, fa, fp, e1, hn, hw⟩ := oc_1 G
  obtain ⟨bs, ts, e2, e181, tp⟩ := hT
  obtain ⟨p0, n2, sz, lim2, am, fr, kd2, nu2, sg, fa2, pl2, wd, td, sm, pr, e180, hn2⟩ := oc_180 G
  obtain rfl : n = n2 := by
    obtain ⟨z, z1, z2⟩ := hz
    rw [hq_obj e1] at z1
    rw [hq_obj e180] at z2
    have y1 : some (Value.int (Int32.ofNat n)) = some (.int z) := z1
    have y2 : some (Value.int (Int32.ofNat n2)) = some (.int z) := z2
    have e := congrArg Int32.toInt (Value.int.inj (Option.some.inj (y1.trans y2.symm)))
    rw [n_int (by omega), n_int (by omega)] at e
    omega
  rw [hq_obj e0] at h0d h0s hse
  have h0d : some (Value.ref d) = some (.ref 13) := h0d
  have h0s : some (Value.ref s) = some (.ref 3) := h0s
  have hse : some (Value.ref se) = some (.ref 115) := hse
  obtain rfl := Value.ref.inj (Option.some.inj h0d)
  obtain rfl := Value.ref.inj (Option.some.inj h0s)
  obtain rfl := Value.ref.inj (Option.some.inj hse)
  obtain ⟨P, Dn, lw, cl, id, gl, bo, eb, hP, hDn⟩ := oc_3 G
  obtain ⟨pn, -, la1, ca1⟩ := al_of (hp := hp) (a := 4) (t := 2) (n := 7) (G.1 4 gc4 rfl).1
  obtain ⟨ri, -, la2, ca2⟩ := ai_of (hp := hp) (a := 5) (t := 1) (n := 7) (G.1 5 gc5 rfl).1
  obtain ⟨lf, -, la3, ca3⟩ := ai_of (hp := hp) (a := 6) (t := 1) (n := 7) (G.1 6 gc6 rfl).1
  obtain ⟨wa, -, la4, ca4⟩ := ai_of (hp := hp) (a := 7) (t := 1) (n := 7) (G.1 7 gc7 rfl).1
  obtain ⟨fo, -, la5, ca5⟩ := ai_of (hp := hp) (a := 8) (t := 1) (n := 49) (G.1 8 gc8 rfl).1
  obtain ⟨dn, -, la6, ca6⟩ := al_of (hp := hp) (a := 9) (t := 2) (n := 8) (G.1 9 gc9 rfl).1
  obtain ⟨ha, -, la7, ca7⟩ := ai_of (hp := hp) (a := 10) (t := 1) (n := 8) (G.1 10 gc10 rfl).1
  obtain ⟨pa, -, la8, ca8⟩ := ai_of (hp := hp) (a := 11) (t := 1) (n := 8) (G.1 11 gc11 rfl).1
  obtain ⟨bl, -, la9, ca9⟩ := ai_of (hp := hp) (a := 12) (t := 1) (n := 8) (G.1 12 gc12 rfl).1
  obtain ⟨c0, c1, c2, c3, c4, e23⟩ := oc_23 G
  obtain ⟨a1, -, k1, y1⟩ := ai_of (hp := hp) (a := 24) (t := 1) (n := 7) (G.1 24 gc24 rfl).1
  obtain ⟨a2, -, k2, y2⟩ := ai_of (hp := hp) (a := 25) (t := 1) (n := 7) (G.1 25 gc25 rfl).1
  obtain ⟨a3, -, k3, y3⟩ := ai_of (hp := hp) (a := 26) (t := 1) (n := 7) (G.1 26 gc26 rfl).1
  obtain ⟨a4, -, k4, y4⟩ := ai_of (hp := hp) (a := 27) (t := 1) (n := 7) (G.1 27 gc27 rfl).1
  obtain ⟨a5, -, k5, y5⟩ := ai_of (hp := hp) (a := 28) (t := 1) (n := 7) (G.1 28 gc28 rfl).1
  obtain ⟨a6, -, k6, y6⟩ := ai_of (hp := hp) (a := 29) (t := 1) (n := 7) (G.1 29 gc29 rfl).1
  obtain ⟨a7, -, k7, y7⟩ := ai_of (hp := hp) (a := 30) (t := 1) (n := 8) (G.1 30 gc30 rfl).1
  obtain ⟨q1, q2, e39⟩ := oc_39 G
  obtain ⟨u0, u1, ese⟩ := oc_115 G
  obtain ⟨nw, -, kw, e182⟩ := ai_of (hp := hp) (a := 182) (t := 1) (n := 396) (G.1 182 gc182 rfl).1
  obtain ⟨nz, -, kz, e187⟩ := al_of (hp := hp) (a := 187) (t := 2) (n := 15) (G.1 187 gc187 rfl).1
  obtain ⟨rd, -, lr, e183⟩ := ai_of (hp := hp) (a := 183) (t := 1) (n := 101) (G.1 183 gc183 rfl).1
  obtain ⟨rn, -, ln, e188⟩ := al_of (hp := hp) (a := 188) (t := 2) (n := 15) (G.1 188 gc188 rfl).1
  obtain ⟨on, -, lo, e191⟩ := ai_of (hp := hp) (a := 191) (t := 3) (n := 3) (G.1 191 gc191 rfl).1
  obtain ⟨B, hB, hM, hb⟩ := tp_B tp
  have o1 : ov hp ((0, .inr (10, [.ref 1, .ref 13, .ref 3, .ref 23, .ref 31, .ref 39, .ref 105, .ref 115, .ref ss, .ref 120, .ref 125, .ref 129, .ref 131, .int lt, .int fb, .int tq, .int gb])) :: (1, tcl n lim a kd pl w le nu tk fa fp) :: (2, bcl bs) :: [(3, dcl3 P Dn lw cl id gl bo), (4, lng pn), (5, ia ri), (6, ia lf), (7, ia wa), (8, ia fo), (9, lng dn), (10, ia ha), (11, ia pa), (12, ia bl), (23, .inr (3, [.int c0, .int c1, .int c2, .int c3, .int c4, .ref 24, .ref 25, .ref 26, .ref 27, .ref 28, .ref 29, .ref 30])), (24, ia a1), (25, ia a2), (26, ia a3), (27, ia a4), (28, ia a5), (29, ia a6), (30, ia a7), (39, .inr (6, [.ref 40, .int q1, .int q2])), (115, .inr (7, [.int u0, .int u1, .ref 116, .ref 117, .ref 118, .ref 119]))]) = hp := ov_id e0 (ov_id e1 (ov_id e2 (ov_id eb (ov_id ca1 (ov_id ca2 (ov_id ca3 (ov_id ca4 (ov_id ca5 (ov_id ca6 (ov_id ca7 (ov_id ca8 (ov_id ca9 (ov_id e23 (ov_id y1 (ov_id y2 (ov_id y3 (ov_id y4 (ov_id y5 (ov_id y6 (ov_id y7 (ov_id e39 (ov_c1 ese))))))))))))))))))))))
  rcases dd3_115 (P := P) (Dn := Dn) (lw := lw) (cl := cl) (id := id) (gl := gl) (bo := bo) (lt := lt) (fb := fb) (tq := tq) (gb := gb) (q1 := q1) (q2 := q2) (sm := sm) (pr := pr) (ss := ss) (n := n) (lim0 := lim) (a0 := a) (kd0 := kd) (pl0 := pl) (w0 := w) (le0 := le) (nu0 := nu) (tk0 := tk) (fa0 := fa) (fp0 := fp) (sz1 := sz) (lim1 := lim2) (a1x := am) (fr1 := fr) (kd1 := kd2) (p1 := p0) (nu1 := nu2) (sg1 := sg) (fa1 := fa2) (pl1 := pl2) (td1 := td) (wd1 := wd) (c0 := c0) (c1 := c1) (c2 := c2) (c3 := c3) (c4 := c4) (e0 := u0) (e1 := u1) hB hM hb hn ⟨la1, la2, la3, la4, la5, la6, la7, la8, la9⟩ lr ln lo k1 k2 k3 k4 k5 k6 k7 kw kz with ⟨pl9, kk, T2, M2, D2, R2, j1, j2, ⟨tl, ta, tkd, tw, tle, tnu, ttk, tfp, rfl⟩, ⟨msz, ml, ma, mfr, mkd, mnu, msg, mqm, mtd, mwd, rfl⟩, s1, s2, hx, hm⟩ | ⟨ln2, T2, M2, D2, R2, gl2, nw2, nz2, ⟨tl, ta, tkd, tpl, tw, tle, tnu, ttk, tfp, rfl⟩, ⟨msz, ml, ma, mfr, mkd, mnu, msg, mqm, mtd, mwd, rfl⟩, m1, m2, ⟨vy0, vy1, vy2, vy3, vy4, vy5, vy6, vy7, vy8, vy9, vy10, vy11, vy12, vy13, vy14, vy15, vy16, vy17, vy18, rfl, rfl, lr5, ln5, df, w3, w4⟩, hx, hm⟩
  · obtain ⟨vy0, vy1, vy2, vy3, vy4, vy5, vy6, vy7, vy8, vy9, vy10, vy11, vy12, vy13, vy14, vy15, rfl⟩ := s1
    obtain ⟨vy16, vy17, vy18, rfl⟩ := s2
    have hx := FR_at o1 (hx hp hlen)
    obtain ⟨q3, q4⟩ := vi_inj (FR.det f1 hx)
    have hl2 : Nat.ble 204 hc.length = true := by
      rw [q4]
      exact ov_hl hlen
    have w_e182 := ov_q q4 e182 rfl
    have w_e187 := ov_q q4 e187 rfl
    have w_e191 := ov_q q4 e191 rfl
    have w_e188 := ov_q q4 e188 rfl
    have w_e183 := ov_q q4 e183 rfl
    have w_e181 := ov_q q4 e181 rfl
    have w_e180 := ov_q q4 e180 rfl
    have hm := FR_at (ov_id w_e182 (ov_id w_e187 (ov_id w_e191 (ov_id w_e188 (ov_id w_e183 (ov_id w_e181 (ov_c1 w_e180))))))) (hm hc hl2)
    obtain ⟨q5, q6⟩ := vi_inj (FR.det f2 hm)
    clear hm hl2 f1 f2 hx w_e182 w_e187 w_e191 w_e188 w_e183 w_e181 w_e180
    subst q6
    subst q4
    refine ⟨q5.trans q3.symm, ⟨bs, ts, (ov_no rfl).trans (ov_at rfl (ov_lt hlen (by decide))), ov_at rfl (ov_lt (ov_hl hlen) (by decide)), tp⟩, Or.inr ⟨(hq_obj ((ov_no rfl).trans (ov_at rfl (ov_lt hlen (by decide))))).trans rfl, (hq_obj ((ov_no rfl).trans (ov_at rfl (ov_lt hlen (by decide))))).trans rfl, dh13_keep (cas10 (m := 13) (ce_same ((ov_no rfl).trans (ov_no rfl))) (ce_same ((ov_no rfl).trans (ov_no rfl))) (ce_same ((ov_no rfl).trans (ov_no rfl))) (ce_same ((ov_no rfl).trans (ov_no rfl))) (ce_same ((ov_no rfl).trans (ov_no rfl))) (ce_same ((ov_no rfl).trans (ov_no rfl))) (ce_same ((ov_no rfl).trans (ov_no rfl))) (ce_same ((ov_no rfl).trans (ov_no rfl))) (ce_same ((ov_no rfl).trans (ov_no rfl))) (ce_same ((ov_no rfl).trans (ov_no rfl)))) (fun j hj => (ce_same ((ov_no rfl).trans (ov_no rfl))).2 _) (fun j hj => (ce_same ((ov_no rfl).trans (ov_no rfl))).2 _) hD⟩, Int32.ofNat kk, (hq_obj ((ov_no rfl).trans (ov_at rfl (ov_lt hlen (by decide))))).trans rfl, (hq_obj (ov_at rfl (ov_lt (ov_hl hlen) (by decide)))).trans rfl⟩
  · have hx := FR_at o1 (hx hp hlen)
    obtain ⟨q3, q4⟩ := vi_inj (FR.det f1 hx)
    have hl2 : Nat.ble 204 hc.length = true := by
      rw [q4]
      exact ov_hl hlen
    have w_e182 := ov_q q4 e182 rfl
    have w_e187 := ov_q q4 e187 rfl
    have w_e191 := ov_q q4 e191 rfl
    have w_e188 := ov_q q4 e188 rfl
    have w_e183 := ov_q q4 e183 rfl
    have w_e181 := ov_q q4 e181 rfl
    have w_e180 := ov_q q4 e180 rfl
    have hm := FR_at (ov_id w_e182 (ov_id w_e187 (ov_id w_e191 (ov_id w_e188 (ov_id w_e183 (ov_id w_e181 (ov_c1 w_e180))))))) (hm hc hl2)
    obtain ⟨q5, q6⟩ := vi_inj (FR.det f2 hm)
    clear hm f1 f2 hx w_e182 w_e187 w_e191 w_e188 w_e183 w_e181 w_e180
    refine ⟨q5.trans q3.symm, ⟨bs, ts, ov_q q6 (ov_qa q4 rfl hlen rfl) rfl, ov_qa q6 rfl hl2 rfl, tp⟩, Or.inl ⟨(hq_obj (ov_q q6 (ov_qa q4 rfl hlen rfl) rfl)).trans rfl, (hq_obj (ov_q q6 (ov_qa q4 rfl hlen rfl) rfl)).trans rfl, vy0, vy1, vy2, vy3, vy4, vy5, vy6, vy7, vy8, vy9, vy10, vy11, vy12, vy13, vy14, vy15, vy16, vy17, ov_q q6 (ov_qa q4 rfl hlen rfl) rfl, ov_q q6 (ov_qa q4 rfl hlen rfl) rfl, ov_q q6 (ov_qa q4 rfl hlen rfl) rfl, ov_q q6 (ov_qa q4 rfl hlen rfl) rfl, ov_q q6 (ov_qa q4 rfl hlen rfl) rfl, ov_q q6 (ov_qa q4 rfl hlen rfl) rfl, ov_q q6 (ov_qa q4 rfl hlen rfl) rfl, ov_q q6 (ov_qa q4 rfl hlen rfl) rfl, ov_q q6 (ov_qa q4 rfl hlen rfl) rfl, ov_q q6 (ov_qa q4 rfl hlen rfl) rfl, lr5, ln5, df, fun j hj => ?_, fun j hj => ?_⟩, Int32.ofNat 0, (hq_obj (ov_q q6 (ov_qa q4 rfl hlen rfl) rfl)).trans rfl, (hq_obj (ov_qa q6 rfl hl2 rfl)).trans rfl⟩
    · rw [Nat.zero_add, hq_int (l := nw2) (t := 1) (ov_qa q6 rfl hl2 rfl), w3 j hj]
    · rw [Nat.zero_add, hq_lng (l := nz2) (t := 2) (ov_qa q6 rfl hl2 rfl), w4 j hj]
theorem ddu {hp hc hd : List AE} {r r2 : Int32} {k1 k2 : Nat} (G : hp_ok GG hp) (hlen : Nat.ble 204 hp.length = true) (D : DEEP hp) (hz : ∃ z : Int32, hq hp 1 1 = some (.int z) ∧ hq hp 180 2 = some (.int z)) (f1 : FR k1 14 [.ref 0] hp (some (.int r), hc)) (f2 : FR k2 195 [.ref 180] hc (some (.int r2), hd)) : r2 = r ∧ TPH hd ∧ CUR hd ∧ FLT hd := by
  have hs : hq hp 0 7 = some (.ref 110) ∨ hq hp 0 7 = some (.ref 115) := by
    obtain ⟨d, s, se, ss, lt, fb, tq, gb, e0, -, -, h, -⟩ := oc_0 G
    rcases h with rfl | rfl
    · exact Or.inl ((hq_obj e0).trans rfl)
    · exact Or.inr ((hq_obj e0).trans rfl)
  rcases D.2.1 with ⟨a1, a2, a3⟩ | ⟨a1, a2, a3⟩ <;> rcases hs with h | h
  · exact ddu13_110 G hlen D.1 hz a1 a2 h a3 f1 f2
  · exact ddu13_115 G hlen D.1 hz a1 a2 h a3 f1 f2
  · exact ddu3_110 G hlen D.1 hz a1 a2 h a3 f1 f2
  · exact ddu3_115 G hlen D.1 hz a1 a2 h a3 f1 f2
end
section
/-! ===== image, restore ===== -/
theorem co_run {G : GT} {C : CO} (hC : CoOk G MM C) {ρ : List Int} {As : List Value} {hp : List AE} (h1 : en_ok ρ (cE C)) (h2 : ss_ok ρ (cA C) As) (h3 : sp_ok ρ (cP C) hp) (h4 : hp_ok G hp) : ∃ q : ev_R, FR (cDep C) (cMi C) As hp q ∧ EndOk G C ρ hp q := by
  obtain ⟨q, ⟨N, hN⟩, he⟩ := hC.2.2 ρ As hp h1 h2 h3 h4
  exact ⟨q, ⟨N, hN⟩, he⟩
theorem co_no {G : GT} {C : CO} {ρ : List Int} {hp : List AE} {q : ev_R} (ho : (cO C).all (fun o => o.1.isNone) = true) (he : EndOk G C ρ hp q) : q.1 = none := by
  obtain ⟨-, -, o, hoo, τ, -, -, t3⟩ := he
  have h5 := List.all_eq_true.mp ho o hoo
  cases h6 : o.1 with
  | some x => rw [h6] at h5; cases h5
  | none =>
    rw [h6] at t3
    cases h7 : q.1 with
    | none => rfl
    | some v => rw [h7] at t3; exact t3.elim
theorem gfo {hp : List AE} {a c y r n : Nat} {ct : CT} (g : hp_ok GG hp) (hc : GG.1 a = some ct) (hd : ct.1 = (3, c, n)) (hy : y < n) (hl : lkp ct.2.2 y = some (2, (r : Int), 0)) : ev_gf hp a c y = some (.ref r) := by
  obtain ⟨h1, h2⟩ := g.1 a ct hc
  rw [hd] at h1
  obtain ⟨v, hv⟩ := hq_some h1 hy
  have h3 : ft_ok (2, (r : Int), 0) v := (h2 y v hv).2 _ hl
  have h4 : v = .ref (r : Int).toNat := h3
  rw [h4] at hv
  exact gf_of h1 hv
theorem gf_lit {hp : List AE} {a c y : Nat} {fs : List Value} {v : Value} (e : hp[a]? = some (.inr (c, fs))) (hy : fs[y]? = some v) : ev_gf hp a c y = some v := by
  unfold ev_gf
  rw [e]
  show cond (Nat.beq c c) (fs[y]?) none = some v
  rw [Nat.beq_refl]
  exact hy
section
variable {dd mi pc x y : Nat} {L : List (Nat × Value)} {st : List Value} {hp : List AE} {q : ev_R}
theorem rt_ivP {idx a : Nat} {fs : List Value} {As rest : List Value} {v : Option Value} {h2 : List AE} (hf : mF MM mi pc = some (.invokevirtual idx, x, y)) (hx : Nat.blt x 900 = true) (hp0 : ev_pop y st = some (As, .ref a :: rest)) (e : hp[a]? = some (.inr (mK MM x, fs))) (hz : (Nat.beq (mC MM x) 0 && Nat.beq (mS MM x) 0) = true) (hc8 : Nat.ble ((rest.map fun v => v.category).sum) 8 = true) (hc : FR dd x (.ref a :: As) hp (v, h2)) (h : RT MM dd mi (pc + 3) L (v.toList ++ rest) h2 q) : RT MM dd mi pc L st hp q := by
  rw [Bool.and_eq_true] at hz
  have z1 := Nat.eq_of_beq_eq_true hz.1
  have z2 := Nat.eq_of_beq_eq_true hz.2
  have hx2 : x < 900 := Nat.le_of_ble_eq_true hx
  refine RT_call (cx := x) (As := .ref a :: As) (rest := rest) (r := (v, h2)) hf (fun cf K hcf => ?_) hc h
  show (if x < 900 then ev_iv MM cf mi x y st hp 0 0 (K (pc + 3) L) else _) = _
  rw [if_pos hx2]
  unfold ev_iv
  rw [hp0]
  show (ev_ob hp a (mK MM x)).bind (fun _ => if x < 900 then ev_cf MM cf mi x (.ref a :: As) rest hp 0 0 (K (pc + 3) L) else none) = _
  have e3 : ev_ob hp a (mK MM x) = some fs := by
    unfold ev_ob
    rw [e]
    show cond (Nat.beq (mK MM x) (mK MM x)) (some fs) none = some fs
    rw [Nat.beq_refl]
    rfl
  rw [e3]
  show (if x < 900 then ev_cf MM cf mi x (.ref a :: As) rest hp 0 0 (K (pc + 3) L) else none) = _
  rw [if_pos hx2]
  unfold ev_cf
  rw [if_pos (Nat.le_of_ble_eq_true hc8), z1, z2, if_pos ⟨Nat.zero_le _, Nat.zero_le _⟩, hcf]
  rfl
theorem rt_anP {a t m : Nat} (hf : mF MM mi pc = some (.arraylength, x, y)) (e : ev_an hp a = some (t, m)) (ht : t < 7) (h : RT MM dd mi (pc + 1) L (.int (Int32.ofNat m) :: st) hp q) : RT MM dd mi pc L (.ref a :: st) hp q := by
  refine RT_step hf (fun cf K => ?_) h
  show (ev_an hp a).bind (fun z => if z.1 < 7 then K (pc + 1) L (.int (Int32.ofNat z.2) :: st) hp 0 0 else none) = _
  rw [e]
  show (if t < 7 then K (pc + 1) L (.int (Int32.ofNat m) :: st) hp 0 0 else none) = _
  rw [if_pos ht]
theorem rt_aaP {a i r : Nat} {l : List (Option Nat)} (hf : mF MM mi pc = some (.aaload, x, y)) (e : ev_ar hp a = some (6, l)) (hi : l[i]? = some (some r)) (hb : i < 2147483648) (h : RT MM dd mi (pc + 1) L (.ref r :: st) hp q) : RT MM dd mi pc L (.int (Int32.ofNat i) :: .ref a :: st) hp q := by
  refine RT_step hf (fun cf K => ?_) h
  show (ev_ar hp a).bind (fun z => if 4 ≤ z.1 ∧ z.1 < 7 then (ev_rd z.2 (Int32.ofNat i)).bind fun v => K (pc + 1) L (ev_ro z.1 v :: st) hp 0 0 else none) = _
  rw [e]
  show (if 4 ≤ (6 : Nat) ∧ (6 : Nat) < 7 then (ev_rd l (Int32.ofNat i)).bind fun v => K (pc + 1) L (ev_ro 6 v :: st) hp 0 0 else none) = _
  rw [if_pos (by decide), rd_nat hi hb]
  rfl
end
/-- the two images -/
theorem im_arr {hp : List AE} (g : hp_ok GG hp) : ev_an hp 131 = some (6, 2) ∧ ∃ l, ev_ar hp 131 = some (6, l) ∧ l[0]? = some (some 132) ∧ l[1]? = some (some 156) := by
  obtain ⟨h1, h2⟩ := g.1 131 gc131 rfl
  obtain ⟨l, e1, e2⟩ := hh_ar h1
  refine ⟨by unfold ev_an; rw [e1]; show some (6, l.length) = _; rw [e2], l, by unfold ev_ar; rw [e1], ?_, ?_⟩
  · obtain ⟨v, hv⟩ := hq_some h1 (show 0 < 2 by decide)
    have h3 : ft_ok (2, 132, 0) v := (h2 0 v hv).2 _ rfl
    have h4 : v = .ref 132 := h3
    rw [hq_at e1, h4] at hv
    obtain ⟨w, w1, w2⟩ := Option.map_eq_some_iff.mp (show (l[0]?).map (ev_ro 6) = some (.ref 132) from hv)
    rw [w1]
    cases w with
    | none => cases w2
    | some z => cases w2; rfl
  · obtain ⟨v, hv⟩ := hq_some h1 (show 1 < 2 by decide)
    have h3 : ft_ok (2, 156, 0) v := (h2 1 v hv).2 _ rfl
    have h4 : v = .ref 156 := h3
    rw [hq_at e1, h4] at hv
    obtain ⟨w, w1, w2⟩ := Option.map_eq_some_iff.mp (show (l[1]?).map (ev_ro 6) = some (.ref 156) from hv)
    rw [w1]
    cases w with
    | none => cases w2
    | some z => cases w2; rfl
theorem ob_at {hp : List AE} {a c n : Nat} {ct : CT} (g : hp_ok GG hp) (hc : GG.1 a = some ct) (hd : ct.1 = (3, c, n)) : ∃ fs, hp[a]? = some (.inr (c, fs)) ∧ fs.length = n := by
  obtain ⟨h1, -⟩ := g.1 a ct hc
  rw [hd] at h1
  exact hh_obj h1
theorem kce {V W : WR} {h1 h2 h3 : List AE} {a c : Nat} {v : AE} (hA : Agr V h1 h2) (hB : Agr W h2 h3) (u : Upd h3 (h3.set c v) c 0 (.int 1)) (wv : wr_not V a = true) (ww : wr_not W a = true) (hc : a ≠ c) : Ceq h1 (h3.set c v) a := by
  have e1 := ag_ce hA wv
  have e2 := ag_ce hB ww
  exact ⟨(u.1 a).trans (e2.1.trans e1.1), fun i => ((u.2.1 a i).resolve_left (fun e => hc e.1)).trans ((e2.2 i).trans (e1.2 i))⟩
theorem kcf {V W U : WR} {h1 h2 h3 h4 : List AE} {a : Nat} (hA : Agr V h1 h2) (hB : Agr W h2 h3) (hC : Agr U h3 h4) (wv : wr_not V a = true) (ww : wr_not W a = true) (wu : wr_not U a = true) : Ceq h1 h4 a := by
  have e1 := ag_ce hA wv
  have e2 := ag_ce hB ww
  have e3 := ag_ce hC wu
  exact ⟨e3.1.trans (e2.1.trans e1.1), fun i => (e3.2 i).trans ((e2.2 i).trans (e1.2 i))⟩
theorem im0_3_110 {hp : List AE} (G : hp_ok GG hp) (hlen : Nat.ble 204 hp.length = true) (h0d : hq hp 0 1 = some (.ref 3)) (hse : hq hp 0 7 = some (.ref 110)) (hD : DH3 hp 182 0 187 0) : ∃ (P : Nat) (Dn : Nat) (lw : Int32) (cl : Int32) (id : Int32) (gl : Nat) (bo : Nat) (pn : List Int64) (ri : List Int32) (lf : List Int32) (wa : List Int32) (fo : List Int32) (dn : List Int64) (ha : List Int32) (pa : List Int32) (bl : List Int32) (rd : List Int32) (rn : List Int64), ∃ h9 : List AE, FR 3 25 [.ref 0, .int (Int32.ofNat 0)] hp (some (.int 1), h9) ∧ h9[133]? = some (dcl133 P Dn lw cl id gl bo) ∧ h9[134]? = some (lng pn) ∧ h9[135]? = some (ia ri) ∧ h9[136]? = some (ia lf) ∧ h9[137]? = some (ia wa) ∧ h9[138]? = some (ia fo) ∧ h9[139]? = some (lng dn) ∧ h9[140]? = some (ia ha) ∧ h9[141]? = some (ia pa) ∧ h9[142]? = some (ia bl) ∧ rd.length = 101 ∧ rn.length = 15 ∧ DF P Dn lw cl id gl bo pn ri lf wa fo dn ha pa bl rd rn ∧ (∀ j, j < 101 → hq hp 182 (0 + j) = (rd[j]?).map Value.int) ∧ (∀ j, j < 15 → hq hp 187 (0 + j) = (rn[j]?).map Value.long) := by
  obtain ⟨d, s, se, ss, lt, fb, tq, gb, e0, -, -, -, -⟩ := oc_0 G
  rw [hq_obj e0] at h0d hse
  have h0d : some (Value.ref d) = some (.ref 3) := h0d
  have hse : some (Value.ref se) = some (.ref 110) := hse
  obtain rfl := Value.ref.inj (Option.some.inj h0d)
  obtain rfl := Value.ref.inj (Option.some.inj hse)
  obtain ⟨P, Dn, lw, cl, id, gl, bo, pn, ri, lf, wa, fo, dn, ha, pa, bl, rd, rn, h0, h1, h2, h3, h4, h5, h6, h7, h8, h9, z1, z2, z3, z4, z5⟩ := hD
  obtain ⟨P2, Dn2, lw2, cl2, id2, gl2, bo2, eb, -, -⟩ := oc_133 G
  obtain ⟨pn2, -, m1, ca1⟩ := al_of (hp := hp) (a := 134) (t := 2) (n := 7) (G.1 134 gc134 rfl).1
  obtain ⟨ri2, -, m2, ca2⟩ := ai_of (hp := hp) (a := 135) (t := 1) (n := 7) (G.1 135 gc135 rfl).1
  obtain ⟨lf2, -, m3, ca3⟩ := ai_of (hp := hp) (a := 136) (t := 1) (n := 7) (G.1 136 gc136 rfl).1
  obtain ⟨wa2, -, m4, ca4⟩ := ai_of (hp := hp) (a := 137) (t := 1) (n := 7) (G.1 137 gc137 rfl).1
  obtain ⟨fo2, -, m5, ca5⟩ := ai_of (hp := hp) (a := 138) (t := 1) (n := 49) (G.1 138 gc138 rfl).1
  obtain ⟨dn2, -, m6, ca6⟩ := al_of (hp := hp) (a := 139) (t := 2) (n := 8) (G.1 139 gc139 rfl).1
  obtain ⟨ha2, -, m7, ca7⟩ := ai_of (hp := hp) (a := 140) (t := 1) (n := 8) (G.1 140 gc140 rfl).1
  obtain ⟨pa2, -, m8, ca8⟩ := ai_of (hp := hp) (a := 141) (t := 1) (n := 8) (G.1 141 gc141 rfl).1
  obtain ⟨bl2, -, m9, ca9⟩ := ai_of (hp := hp) (a := 142) (t := 1) (n := 8) (G.1 142 gc142 rfl).1
  have o1 : ov hp [(133, dcl133 P2 Dn2 lw2 cl2 id2 gl2 bo2), (134, lng pn2), (135, ia ri2), (136, ia lf2), (137, ia wa2), (138, ia fo2), (139, lng dn2), (140, ia ha2), (141, ia pa2), (142, ia bl2), (3, dcl3 P Dn lw cl id gl bo), (4, lng pn), (5, ia ri), (6, ia lf), (7, ia wa), (8, ia fo), (9, lng dn), (10, ia ha), (11, ia pa), (12, ia bl)] = hp := ov_id eb (ov_id ca1 (ov_id ca2 (ov_id ca3 (ov_id ca4 (ov_id ca5 (ov_id ca6 (ov_id ca7 (ov_id ca8 (ov_id ca9 (ov_id h0 (ov_id h1 (ov_id h2 (ov_id h3 (ov_id h4 (ov_id h5 (ov_id h6 (ov_id h7 (ov_id h8 (ov_c1 h9)))))))))))))))))))
  have hcp := x_copy133_3 (H := hp) hlen (P := P) (P2 := P2) (Dn := Dn) (Dn2 := Dn2) (lw := lw) (lw2 := lw2) (cl := cl) (cl2 := cl2) (id := id) (id2 := id2) (gl := gl) (gl2 := gl2) (bo := bo) (bo2 := bo2) z3.2.2.1 ⟨m1, m2, m3, m4, m5, m6, m7, m8, m9⟩
  rw [o1] at hcp
  obtain ⟨⟨w0, w⟩, fw, ew⟩ := co_run sypc_2214 (hp := hp) (ρ := [0]) (As := [.ref 133, .ref 3]) (en_full []) ⟨rfl, rfl, trivial⟩ (fun q hq => absurd hq List.not_mem_nil) G
  obtain ⟨-, q4⟩ := Prod.mk.inj (FR.det fw hcp)
  have G1 : hp_ok GG (ov hp [(133, dcl133 P Dn lw cl id gl bo), (134, lng pn), (135, ia ri), (136, ia lf), (137, ia wa), (138, ia fo), (139, lng dn), (140, ia ha), (141, ia pa), (142, ia bl), (3, dcl3 P Dn lw cl id gl bo), (4, lng pn), (5, ia ri), (6, ia lf), (7, ia wa), (8, ia fo), (9, lng dn), (10, ia ha), (11, ia pa), (12, ia bl)]) := q4 ▸ ew.2.1
  have A1 := ew.1
  rw [q4] at A1
  have hc0 : (ov hp [(133, dcl133 P Dn lw cl id gl bo), (134, lng pn), (135, ia ri), (136, ia lf), (137, ia wa), (138, ia fo), (139, lng dn), (140, ia ha), (141, ia pa), (142, ia bl), (3, dcl3 P Dn lw cl id gl bo), (4, lng pn), (5, ia ri), (6, ia lf), (7, ia wa), (8, ia fo), (9, lng dn), (10, ia ha), (11, ia pa), (12, ia bl)])[133]? = some (dcl133 P Dn lw cl id gl bo) ∧ (ov hp [(133, dcl133 P Dn lw cl id gl bo), (134, lng pn), (135, ia ri), (136, ia lf), (137, ia wa), (138, ia fo), (139, lng dn), (140, ia ha), (141, ia pa), (142, ia bl), (3, dcl3 P Dn lw cl id gl bo), (4, lng pn), (5, ia ri), (6, ia lf), (7, ia wa), (8, ia fo), (9, lng dn), (10, ia ha), (11, ia pa), (12, ia bl)])[134]? = some (lng pn) ∧ (ov hp [(133, dcl133 P Dn lw cl id gl bo), (134, lng pn), (135, ia ri), (136, ia lf), (137, ia wa), (138, ia fo), (139, lng dn), (140, ia ha), (141, ia pa), (142, ia bl), (3, dcl3 P Dn lw cl id gl bo), (4, lng pn), (5, ia ri), (6, ia lf), (7, ia wa), (8, ia fo), (9, lng dn), (10, ia ha), (11, ia pa), (12, ia bl)])[135]? = some (ia ri) ∧ (ov hp [(133, dcl133 P Dn lw cl id gl bo), (134, lng pn), (135, ia ri), (136, ia lf), (137, ia wa), (138, ia fo), (139, lng dn), (140, ia ha), (141, ia pa), (142, ia bl), (3, dcl3 P Dn lw cl id gl bo), (4, lng pn), (5, ia ri), (6, ia lf), (7, ia wa), (8, ia fo), (9, lng dn), (10, ia ha), (11, ia pa), (12, ia bl)])[136]? = some (ia lf) ∧ (ov hp [(133, dcl133 P Dn lw cl id gl bo), (134, lng pn), (135, ia ri), (136, ia lf), (137, ia wa), (138, ia fo), (139, lng dn), (140, ia ha), (141, ia pa), (142, ia bl), (3, dcl3 P Dn lw cl id gl bo), (4, lng pn), (5, ia ri), (6, ia lf), (7, ia wa), (8, ia fo), (9, lng dn), (10, ia ha), (11, ia pa), (12, ia bl)])[137]? = some (ia wa) ∧ (ov hp [(133, dcl133 P Dn lw cl id gl bo), (134, lng pn), (135, ia ri), (136, ia lf), (137, ia wa), (138, ia fo), (139, lng dn), (140, ia ha), (141, ia pa), (142, ia bl), (3, dcl3 P Dn lw cl id gl bo), (4, lng pn), (5, ia ri), (6, ia lf), (7, ia wa), (8, ia fo), (9, lng dn), (10, ia ha), (11, ia pa), (12, ia bl)])[138]? = some (ia fo) ∧ (ov hp [(133, dcl133 P Dn lw cl id gl bo), (134, lng pn), (135, ia ri), (136, ia lf), (137, ia wa), (138, ia fo), (139, lng dn), (140, ia ha), (141, ia pa), (142, ia bl), (3, dcl3 P Dn lw cl id gl bo), (4, lng pn), (5, ia ri), (6, ia lf), (7, ia wa), (8, ia fo), (9, lng dn), (10, ia ha), (11, ia pa), (12, ia bl)])[139]? = some (lng dn) ∧ (ov hp [(133, dcl133 P Dn lw cl id gl bo), (134, lng pn), (135, ia ri), (136, ia lf), (137, ia wa), (138, ia fo), (139, lng dn), (140, ia ha), (141, ia pa), (142, ia bl), (3, dcl3 P Dn lw cl id gl bo), (4, lng pn), (5, ia ri), (6, ia lf), (7, ia wa), (8, ia fo), (9, lng dn), (10, ia ha), (11, ia pa), (12, ia bl)])[140]? = some (ia ha) ∧ (ov hp [(133, dcl133 P Dn lw cl id gl bo), (134, lng pn), (135, ia ri), (136, ia lf), (137, ia wa), (138, ia fo), (139, lng dn), (140, ia ha), (141, ia pa), (142, ia bl), (3, dcl3 P Dn lw cl id gl bo), (4, lng pn), (5, ia ri), (6, ia lf), (7, ia wa), (8, ia fo), (9, lng dn), (10, ia ha), (11, ia pa), (12, ia bl)])[141]? = some (ia pa) ∧ (ov hp [(133, dcl133 P Dn lw cl id gl bo), (134, lng pn), (135, ia ri), (136, ia lf), (137, ia wa), (138, ia fo), (139, lng dn), (140, ia ha), (141, ia pa), (142, ia bl), (3, dcl3 P Dn lw cl id gl bo), (4, lng pn), (5, ia ri), (6, ia lf), (7, ia wa), (8, ia fo), (9, lng dn), (10, ia ha), (11, ia pa), (12, ia bl)])[142]? = some (ia bl) := ⟨ov_at rfl (ov_lt hlen (by decide)), ov_at rfl (ov_lt hlen (by decide)), ov_at rfl (ov_lt hlen (by decide)), ov_at rfl (ov_lt hlen (by decide)), ov_at rfl (ov_lt hlen (by decide)), ov_at rfl (ov_lt hlen (by decide)), ov_at rfl (ov_lt hlen (by decide)), ov_at rfl (ov_lt hlen (by decide)), ov_at rfl (ov_lt hlen (by decide)), ov_at rfl (ov_lt hlen (by decide))⟩
  generalize ov hp [(133, dcl133 P Dn lw cl id gl bo), (134, lng pn), (135, ia ri), (136, ia lf), (137, ia wa), (138, ia fo), (139, lng dn), (140, ia ha), (141, ia pa), (142, ia bl), (3, dcl3 P Dn lw cl id gl bo), (4, lng pn), (5, ia ri), (6, ia lf), (7, ia wa), (8, ia fo), (9, lng dn), (10, ia ha), (11, ia pa), (12, ia bl)] = h1 at hcp G1 A1 hc0
  obtain ⟨⟨h20, h2⟩, f2, x2⟩ := co_run sypc_2215 (hp := h1) (ρ := [0]) (As := [.ref 143, .ref 23]) (en_full []) ⟨rfl, rfl, trivial⟩ (fun q hq => absurd hq List.not_mem_nil) G1
  have q2 := co_no (C := sypt_2215) (by decide +kernel) x2
  have q2 : h20 = none := q2
  subst q2
  obtain ⟨⟨h30, h3⟩, f3, x3⟩ := co_run sypc_2216 (hp := h2) (ρ := [0]) (As := [.ref 151, .ref 110]) (en_full []) ⟨rfl, rfl, trivial⟩ (fun q hq => absurd hq List.not_mem_nil) x2.2.1
  have q3 := co_no (C := sypt_2216) (by decide +kernel) x3
  have q3 : h30 = none := q3
  subst q3
  have G2 := x2.2.1
  have G3 := x3.2.1
  have A2 := x2.1
  have A3 := x3.1
  obtain ⟨an, li, ar, ar0, ar1⟩ := im_arr G
  obtain ⟨fi, oi, -⟩ := ob_at G (a := 132) (ct := gc132) rfl rfl
  obtain ⟨fs, i1, i2⟩ := ob_at G3 (a := 132) (ct := gc132) rfl rfl
  obtain ⟨fb1, ob1, -⟩ := ob_at G (a := 133) (ct := gc133) rfl rfl
  obtain ⟨fb2, ob2, -⟩ := ob_at G1 (a := 143) (ct := gc143) rfl rfl
  obtain ⟨fb3, ob3, -⟩ := ob_at G2 (a := 151) (ct := gc151) rfl rfl
  have hk : FR 2 86 [.ref 132, .ref 3, .ref 23, .ref 110] hp (none, (h3.set 132 (.inr (2, fs.set 0 (.int 1))))) := by
    refine FR_of rfl ?_
    refine rt_ald rfl rfl ?_
    refine rt_gf rfl (gfo G (ct := gc132) (y := 1) (r := 133) rfl rfl (by decide) rfl) ?_
    refine rt_ald rfl rfl ?_
    refine rt_ivP rfl rfl rfl ob1 rfl rfl (hcp.up (by decide)) ?_
    refine rt_ald rfl rfl ?_
    refine rt_gf rfl (gfo G1 (ct := gc132) (y := 2) (r := 143) rfl rfl (by decide) rfl) ?_
    refine rt_ald rfl rfl ?_
    refine rt_ivP rfl rfl rfl ob2 rfl rfl (f2.up (by decide)) ?_
    refine rt_ald rfl rfl ?_
    refine rt_gf rfl (gfo G2 (ct := gc132) (y := 3) (r := 151) rfl rfl (by decide) rfl) ?_
    refine rt_ald rfl rfl ?_
    refine rt_ivP rfl rfl rfl ob3 rfl rfl (f3.up (by decide)) ?_
    refine rt_ald rfl rfl ?_
    refine rt_ico rfl (show Int32.ofInt 1 = 1 from rfl) ?_
    refine rt_put rfl i1 rfl (by omega) (by decide +kernel) ?_
    exact ow_ret rfl rfl rfl
  have u := upd_f (v := .int 1) i1 (show 0 < fs.length by omega)
  have kc : ∀ a, 133 ≤ a → a ≤ 142 → Ceq h1 (h3.set 132 (.inr (2, fs.set 0 (.int 1)))) a := cas10 (m := 133) (kce A2 A3 u (by decide +kernel) (by decide +kernel) (by decide)) (kce A2 A3 u (by decide +kernel) (by decide +kernel) (by decide)) (kce A2 A3 u (by decide +kernel) (by decide +kernel) (by decide)) (kce A2 A3 u (by decide +kernel) (by decide +kernel) (by decide)) (kce A2 A3 u (by decide +kernel) (by decide +kernel) (by decide)) (kce A2 A3 u (by decide +kernel) (by decide +kernel) (by decide)) (kce A2 A3 u (by decide +kernel) (by decide +kernel) (by decide)) (kce A2 A3 u (by decide +kernel) (by decide +kernel) (by decide)) (kce A2 A3 u (by decide +kernel) (by decide +kernel) (by decide)) (kce A2 A3 u (by decide +kernel) (by decide +kernel) (by decide))
  obtain ⟨n0, n1, n2, n3, n4, n5, n6, n7, n8, n9⟩ := hc0
  refine ⟨P, Dn, lw, cl, id, gl, bo, pn, ri, lf, wa, fo, dn, ha, pa, bl, rd, rn, (h3.set 132 (.inr (2, fs.set 0 (.int 1)))), ?_, ce_obj (kc 133 (by decide) (by decide)) n0, ce_lng (kc 134 (by decide) (by decide)) n1, ce_int (kc 135 (by decide) (by decide)) n2, ce_int (kc 136 (by decide) (by decide)) n3, ce_int (kc 137 (by decide) (by decide)) n4, ce_int (kc 138 (by decide) (by decide)) n5, ce_lng (kc 139 (by decide) (by decide)) n6, ce_int (kc 140 (by decide) (by decide)) n7, ce_int (kc 141 (by decide) (by decide)) n8, ce_int (kc 142 (by decide) (by decide)) n9, z1, z2, z3, z4, z5⟩
  refine FR_of rfl ?_
  refine rt_ild rfl rfl ?_
  refine RT_step rfl (fun _ _ => rfl) ?_
  refine RT_el (by decide) ?_
  refine rt_ild rfl rfl ?_
  refine rt_ald rfl rfl ?_
  refine rt_gf rfl (gf_lit (y := 12) e0 rfl) ?_
  refine rt_anP rfl an (by decide) ?_
  refine RT_step rfl (fun _ _ => rfl) ?_
  refine RT_if (by decide) ?_
  refine rt_ald rfl rfl ?_
  refine rt_gf rfl (gf_lit (y := 12) e0 rfl) ?_
  refine rt_ild rfl rfl ?_
  refine rt_aaP rfl ar ar0 (by decide) ?_
  refine rt_ald rfl rfl ?_
  refine rt_gf rfl (gf_lit (y := 1) e0 rfl) ?_
  refine rt_ald rfl rfl ?_
  refine rt_gf rfl (gf_lit (y := 3) e0 rfl) ?_
  refine rt_ald rfl rfl ?_
  refine rt_gf rfl (gf_lit (y := 7) e0 rfl) ?_
  refine rt_ivP rfl rfl rfl oi rfl rfl hk ?_
  refine rt_ico rfl (show Int32.ofInt 1 = 1 from rfl) ?_
  exact rt_irt rfl rfl ⟨rfl, rfl⟩
theorem re0_3_110 {hp : List AE} (G : hp_ok GG hp) (hlen : Nat.ble 204 hp.length = true) (h0d : hq hp 0 1 = some (.ref 3)) (hse : hq hp 0 7 = some (.ref 110)) (hk : hq hp 132 0 = some (.int 1)) (hD : DH133 hp 184 0 189 0) : ∃ (P : Nat) (Dn : Nat) (lw : Int32) (cl : Int32) (id : Int32) (gl : Nat) (bo : Nat) (pn : List Int64) (ri : List Int32) (lf : List Int32) (wa : List Int32) (fo : List Int32) (dn : List Int64) (ha : List Int32) (pa : List Int32) (bl : List Int32) (rd : List Int32) (rn : List Int64), ∃ h9 : List AE, FR 3 35 [.ref 0, .int (Int32.ofNat 0)] hp (some (.int 1), h9) ∧ h9[3]? = some (dcl3 P Dn lw cl id gl bo) ∧ h9[4]? = some (lng pn) ∧ h9[5]? = some (ia ri) ∧ h9[6]? = some (ia lf) ∧ h9[7]? = some (ia wa) ∧ h9[8]? = some (ia fo) ∧ h9[9]? = some (lng dn) ∧ h9[10]? = some (ia ha) ∧ h9[11]? = some (ia pa) ∧ h9[12]? = some (ia bl) ∧ rd.length = 101 ∧ rn.length = 15 ∧ DF P Dn lw cl id gl bo pn ri lf wa fo dn ha pa bl rd rn ∧ (∀ j, j < 101 → hq hp 184 (0 + j) = (rd[j]?).map Value.int) ∧ (∀ j, j < 15 → hq hp 189 (0 + j) = (rn[j]?).map Value.long) := by
  obtain ⟨d, s, se, ss, lt, fb, tq, gb, e0, -, -, -, -⟩ := oc_0 G
  rw [hq_obj e0] at h0d hse
  have h0d : some (Value.ref d) = some (.ref 3) := h0d
  have hse : some (Value.ref se) = some (.ref 110) := hse
  obtain rfl := Value.ref.inj (Option.some.inj h0d)
  obtain rfl := Value.ref.inj (Option.some.inj hse)
  obtain ⟨P, Dn, lw, cl, id, gl, bo, pn, ri, lf, wa, fo, dn, ha, pa, bl, rd, rn, h0, h1, h2, h3, h4, h5, h6, h7, h8, h9, z1, z2, z3, z4, z5⟩ := hD
  obtain ⟨P2, Dn2, lw2, cl2, id2, gl2, bo2, eb, -, -⟩ := oc_3 G
  obtain ⟨pn2, -, m1, ca1⟩ := al_of (hp := hp) (a := 4) (t := 2) (n := 7) (G.1 4 gc4 rfl).1
  obtain ⟨ri2, -, m2, ca2⟩ := ai_of (hp := hp) (a := 5) (t := 1) (n := 7) (G.1 5 gc5 rfl).1
  obtain ⟨lf2, -, m3, ca3⟩ := ai_of (hp := hp) (a := 6) (t := 1) (n := 7) (G.1 6 gc6 rfl).1
  obtain ⟨wa2, -, m4, ca4⟩ := ai_of (hp := hp) (a := 7) (t := 1) (n := 7) (G.1 7 gc7 rfl).1
  obtain ⟨fo2, -, m5, ca5⟩ := ai_of (hp := hp) (a := 8) (t := 1) (n := 49) (G.1 8 gc8 rfl).1
  obtain ⟨dn2, -, m6, ca6⟩ := al_of (hp := hp) (a := 9) (t := 2) (n := 8) (G.1 9 gc9 rfl).1
  obtain ⟨ha2, -, m7, ca7⟩ := ai_of (hp := hp) (a := 10) (t := 1) (n := 8) (G.1 10 gc10 rfl).1
  obtain ⟨pa2, -, m8, ca8⟩ := ai_of (hp := hp) (a := 11) (t := 1) (n := 8) (G.1 11 gc11 rfl).1
  obtain ⟨bl2, -, m9, ca9⟩ := ai_of (hp := hp) (a := 12) (t := 1) (n := 8) (G.1 12 gc12 rfl).1
  have o1 : ov hp [(3, dcl3 P2 Dn2 lw2 cl2 id2 gl2 bo2), (4, lng pn2), (5, ia ri2), (6, ia lf2), (7, ia wa2), (8, ia fo2), (9, lng dn2), (10, ia ha2), (11, ia pa2), (12, ia bl2), (133, dcl133 P Dn lw cl id gl bo), (134, lng pn), (135, ia ri), (136, ia lf), (137, ia wa), (138, ia fo), (139, lng dn), (140, ia ha), (141, ia pa), (142, ia bl)] = hp := ov_id eb (ov_id ca1 (ov_id ca2 (ov_id ca3 (ov_id ca4 (ov_id ca5 (ov_id ca6 (ov_id ca7 (ov_id ca8 (ov_id ca9 (ov_id h0 (ov_id h1 (ov_id h2 (ov_id h3 (ov_id h4 (ov_id h5 (ov_id h6 (ov_id h7 (ov_id h8 (ov_c1 h9)))))))))))))))))))
  have hcp := x_copy3_133 (H := hp) hlen (P := P) (P2 := P2) (Dn := Dn) (Dn2 := Dn2) (lw := lw) (lw2 := lw2) (cl := cl) (cl2 := cl2) (id := id) (id2 := id2) (gl := gl) (gl2 := gl2) (bo := bo) (bo2 := bo2) z3.2.2.1 ⟨m1, m2, m3, m4, m5, m6, m7, m8, m9⟩
  rw [o1] at hcp
  obtain ⟨⟨w0, w⟩, fw, ew⟩ := co_run sypc_2223 (hp := hp) (ρ := [0]) (As := [.ref 3, .ref 133]) (en_full []) ⟨rfl, rfl, trivial⟩ (fun q hq => absurd hq List.not_mem_nil) G
  obtain ⟨-, q4⟩ := Prod.mk.inj (FR.det fw hcp)
  have G1 : hp_ok GG (ov hp [(3, dcl3 P Dn lw cl id gl bo), (4, lng pn), (5, ia ri), (6, ia lf), (7, ia wa), (8, ia fo), (9, lng dn), (10, ia ha), (11, ia pa), (12, ia bl), (133, dcl133 P Dn lw cl id gl bo), (134, lng pn), (135, ia ri), (136, ia lf), (137, ia wa), (138, ia fo), (139, lng dn), (140, ia ha), (141, ia pa), (142, ia bl)]) := q4 ▸ ew.2.1
  have A1 := ew.1
  rw [q4] at A1
  have hc0 : (ov hp [(3, dcl3 P Dn lw cl id gl bo), (4, lng pn), (5, ia ri), (6, ia lf), (7, ia wa), (8, ia fo), (9, lng dn), (10, ia ha), (11, ia pa), (12, ia bl), (133, dcl133 P Dn lw cl id gl bo), (134, lng pn), (135, ia ri), (136, ia lf), (137, ia wa), (138, ia fo), (139, lng dn), (140, ia ha), (141, ia pa), (142, ia bl)])[3]? = some (dcl3 P Dn lw cl id gl bo) ∧ (ov hp [(3, dcl3 P Dn lw cl id gl bo), (4, lng pn), (5, ia ri), (6, ia lf), (7, ia wa), (8, ia fo), (9, lng dn), (10, ia ha), (11, ia pa), (12, ia bl), (133, dcl133 P Dn lw cl id gl bo), (134, lng pn), (135, ia ri), (136, ia lf), (137, ia wa), (138, ia fo), (139, lng dn), (140, ia ha), (141, ia pa), (142, ia bl)])[4]? = some (lng pn) ∧ (ov hp [(3, dcl3 P Dn lw cl id gl bo), (4, lng pn), (5, ia ri), (6, ia lf), (7, ia wa), (8, ia fo), (9, lng dn), (10, ia ha), (11, ia pa), (12, ia bl), (133, dcl133 P Dn lw cl id gl bo), (134, lng pn), (135, ia ri), (136, ia lf), (137, ia wa), (138, ia fo), (139, lng dn), (140, ia ha), (141, ia pa), (142, ia bl)])[5]? = some (ia ri) ∧ (ov hp [(3, dcl3 P Dn lw cl id gl bo), (4, lng pn), (5, ia ri), (6, ia lf), (7, ia wa), (8, ia fo), (9, lng dn), (10, ia ha), (11, ia pa), (12, ia bl), (133, dcl133 P Dn lw cl id gl bo), (134, lng pn), (135, ia ri), (136, ia lf), (137, ia wa), (138, ia fo), (139, lng dn), (140, ia ha), (141, ia pa), (142, ia bl)])[6]? = some (ia lf) ∧ (ov hp [(3, dcl3 P Dn lw cl id gl bo), (4, lng pn), (5, ia ri), (6, ia lf), (7, ia wa), (8, ia fo), (9, lng dn), (10, ia ha), (11, ia pa), (12, ia bl), (133, dcl133 P Dn lw cl id gl bo), (134, lng pn), (135, ia ri), (136, ia lf), (137, ia wa), (138, ia fo), (139, lng dn), (140, ia ha), (141, ia pa), (142, ia bl)])[7]? = some (ia wa) ∧ (ov hp [(3, dcl3 P Dn lw cl id gl bo), (4, lng pn), (5, ia ri), (6, ia lf), (7, ia wa), (8, ia fo), (9, lng dn), (10, ia ha), (11, ia pa), (12, ia bl), (133, dcl133 P Dn lw cl id gl bo), (134, lng pn), (135, ia ri), (136, ia lf), (137, ia wa), (138, ia fo), (139, lng dn), (140, ia ha), (141, ia pa), (142, ia bl)])[8]? = some (ia fo) ∧ (ov hp [(3, dcl3 P Dn lw cl id gl bo), (4, lng pn), (5, ia ri), (6, ia lf), (7, ia wa), (8, ia fo), (9, lng dn), (10, ia ha), (11, ia pa), (12, ia bl), (133, dcl133 P Dn lw cl id gl bo), (134, lng pn), (135, ia ri), (136, ia lf), (137, ia wa), (138, ia fo), (139, lng dn), (140, ia ha), (141, ia pa), (142, ia bl)])[9]? = some (lng dn) ∧ (ov hp [(3, dcl3 P Dn lw cl id gl bo), (4, lng pn), (5, ia ri), (6, ia lf), (7, ia wa), (8, ia fo), (9, lng dn), (10, ia ha), (11, ia pa), (12, ia bl), (133, dcl133 P Dn lw cl id gl bo), (134, lng pn), (135, ia ri), (136, ia lf), (137, ia wa), (138, ia fo), (139, lng dn), (140, ia ha), (141, ia pa), (142, ia bl)])[10]? = some (ia ha) ∧ (ov hp [(3, dcl3 P Dn lw cl id gl bo), (4, lng pn), (5, ia ri), (6, ia lf), (7, ia wa), (8, ia fo), (9, lng dn), (10, ia ha), (11, ia pa), (12, ia bl), (133, dcl133 P Dn lw cl id gl bo), (134, lng pn), (135, ia ri), (136, ia lf), (137, ia wa), (138, ia fo), (139, lng dn), (140, ia ha), (141, ia pa), (142, ia bl)])[11]? = some (ia pa) ∧ (ov hp [(3, dcl3 P Dn lw cl id gl bo), (4, lng pn), (5, ia ri), (6, ia lf), (7, ia wa), (8, ia fo), (9, lng dn), (10, ia ha), (11, ia pa), (12, ia bl), (133, dcl133 P Dn lw cl id gl bo), (134, lng pn), (135, ia ri), (136, ia lf), (137, ia wa), (138, ia fo), (139, lng dn), (140, ia ha), (141, ia pa), (142, ia bl)])[12]? = some (ia bl) := ⟨ov_at rfl (ov_lt hlen (by decide)), ov_at rfl (ov_lt hlen (by decide)), ov_at rfl (ov_lt hlen (by decide)), ov_at rfl (ov_lt hlen (by decide)), ov_at rfl (ov_lt hlen (by decide)), ov_at rfl (ov_lt hlen (by decide)), ov_at rfl (ov_lt hlen (by decide)), ov_at rfl (ov_lt hlen (by decide)), ov_at rfl (ov_lt hlen (by decide)), ov_at rfl (ov_lt hlen (by decide))⟩
  generalize ov hp [(3, dcl3 P Dn lw cl id gl bo), (4, lng pn), (5, ia ri), (6, ia lf), (7, ia wa), (8, ia fo), (9, lng dn), (10, ia ha), (11, ia pa), (12, ia bl), (133, dcl133 P Dn lw cl id gl bo), (134, lng pn), (135, ia ri), (136, ia lf), (137, ia wa), (138, ia fo), (139, lng dn), (140, ia ha), (141, ia pa), (142, ia bl)] = h1 at hcp G1 A1 hc0
  obtain ⟨⟨h20, h2⟩, f2, x2⟩ := co_run sypc_2224 (hp := h1) (ρ := [0]) (As := [.ref 23, .ref 143]) (en_full []) ⟨rfl, rfl, trivial⟩ (fun q hq => absurd hq List.not_mem_nil) G1
  have q2 := co_no (C := sypt_2224) (by decide +kernel) x2
  have q2 : h20 = none := q2
  subst q2
  obtain ⟨⟨h30, h3⟩, f3, x3⟩ := co_run sypc_2225 (hp := h2) (ρ := [0]) (As := [.ref 110, .ref 151]) (en_full []) ⟨rfl, rfl, trivial⟩ (fun q hq => absurd hq List.not_mem_nil) x2.2.1
  have q3 := co_no (C := sypt_2225) (by decide +kernel) x3
  have q3 : h30 = none := q3
  subst q3
  have G2 := x2.2.1
  have G3 := x3.2.1
  have A2 := x2.1
  have A3 := x3.1
  obtain ⟨an, li, ar, ar0, ar1⟩ := im_arr G
  obtain ⟨fi, oi, -⟩ := ob_at G (a := 132) (ct := gc132) rfl rfl
  obtain ⟨fb1, ob1, -⟩ := ob_at G (a := 3) (ct := gc3) rfl rfl
  obtain ⟨fb2, ob2, -⟩ := ob_at G1 (a := 23) (ct := gc23) rfl rfl
  obtain ⟨fb3, ob3, -⟩ := ob_at G2 (a := 110) (ct := gc110) rfl rfl
  obtain ⟨⟨h40, h4⟩, f4, x4⟩ := co_run sypc_49 (hp := h3) (ρ := [0]) (As := [.ref 39]) (en_full []) ⟨rfl, trivial⟩ (fun q hq => absurd hq List.not_mem_nil) G3
  have q5 := co_no (C := sypt_49) (by decide +kernel) x4
  have q5 : h40 = none := q5
  subst q5
  have A4 := x4.1
  have hk2 : FR 2 85 [.ref 132, .ref 3, .ref 23, .ref 110] hp (none, h3) := by
    refine FR_of rfl ?_
    refine rt_ald rfl rfl ?_
    refine rt_ald rfl rfl ?_
    refine rt_gf rfl (gfo G (ct := gc132) (y := 1) (r := 133) rfl rfl (by decide) rfl) ?_
    refine rt_ivP rfl rfl rfl ob1 rfl rfl (hcp.up (by decide)) ?_
    refine rt_ald rfl rfl ?_
    refine rt_ald rfl rfl ?_
    refine rt_gf rfl (gfo G1 (ct := gc132) (y := 2) (r := 143) rfl rfl (by decide) rfl) ?_
    refine rt_ivP rfl rfl rfl ob2 rfl rfl (f2.up (by decide)) ?_
    refine rt_ald rfl rfl ?_
    refine rt_ald rfl rfl ?_
    refine rt_gf rfl (gfo G2 (ct := gc132) (y := 3) (r := 151) rfl rfl (by decide) rfl) ?_
    refine rt_ivP rfl rfl rfl ob3 rfl rfl (f3.up (by decide)) ?_
    exact ow_ret rfl rfl rfl
  obtain ⟨fp3, op3, -⟩ := ob_at G3 (a := 39) (ct := gc39) rfl rfl
  have g05 : ev_gf h3 0 10 5 = some (.ref 39) := gfo G3 (ct := gc0) (y := 5) (r := 39) rfl rfl (by decide) rfl
  have kc : ∀ a, 3 ≤ a → a ≤ 12 → Ceq h1 h4 a := cas10 (m := 3) (kcf A2 A3 A4 (by decide +kernel) (by decide +kernel) (by decide +kernel)) (kcf A2 A3 A4 (by decide +kernel) (by decide +kernel) (by decide +kernel)) (kcf A2 A3 A4 (by decide +kernel) (by decide +kernel) (by decide +kernel)) (kcf A2 A3 A4 (by decide +kernel) (by decide +kernel) (by decide +kernel)) (kcf A2 A3 A4 (by decide +kernel) (by decide +kernel) (by decide +kernel)) (kcf A2 A3 A4 (by decide +kernel) (by decide +kernel) (by decide +kernel)) (kcf A2 A3 A4 (by decide +kernel) (by decide +kernel) (by decide +kernel)) (kcf A2 A3 A4 (by decide +kernel) (by decide +kernel) (by decide +kernel)) (kcf A2 A3 A4 (by decide +kernel) (by decide +kernel) (by decide +kernel)) (kcf A2 A3 A4 (by decide +kernel) (by decide +kernel) (by decide +kernel))
  obtain ⟨n0, n1, n2, n3, n4, n5, n6, n7, n8, n9⟩ := hc0
  refine ⟨P, Dn, lw, cl, id, gl, bo, pn, ri, lf, wa, fo, dn, ha, pa, bl, rd, rn, h4, ?_, ce_obj (kc 3 (by decide) (by decide)) n0, ce_lng (kc 4 (by decide) (by decide)) n1, ce_int (kc 5 (by decide) (by decide)) n2, ce_int (kc 6 (by decide) (by decide)) n3, ce_int (kc 7 (by decide) (by decide)) n4, ce_int (kc 8 (by decide) (by decide)) n5, ce_lng (kc 9 (by decide) (by decide)) n6, ce_int (kc 10 (by decide) (by decide)) n7, ce_int (kc 11 (by decide) (by decide)) n8, ce_int (kc 12 (by decide) (by decide)) n9, z1, z2, z3, z4, z5⟩
  refine FR_of rfl ?_
  refine rt_ild rfl rfl ?_
  refine RT_step rfl (fun _ _ => rfl) ?_
  refine RT_el (by decide) ?_
  refine rt_ild rfl rfl ?_
  refine rt_ald rfl rfl ?_
  refine rt_gf rfl (gf_lit (y := 12) e0 rfl) ?_
  refine rt_anP rfl an (by decide) ?_
  refine RT_step rfl (fun _ _ => rfl) ?_
  refine RT_el (by decide) ?_
  refine rt_ald rfl rfl ?_
  refine rt_gf rfl (gf_lit (y := 12) e0 rfl) ?_
  refine rt_ild rfl rfl ?_
  refine rt_aaP rfl ar ar0 (by decide) ?_
  refine rt_gf rfl (gf_of (n := 4) (G.1 132 gc132 rfl).1 hk) ?_
  refine RT_step rfl (fun _ _ => rfl) ?_
  refine RT_el (by decide) ?_
  refine rt_ald rfl rfl ?_
  refine rt_gf rfl (gf_lit (y := 12) e0 rfl) ?_
  refine rt_ild rfl rfl ?_
  refine rt_aaP rfl ar ar0 (by decide) ?_
  refine rt_ald rfl rfl ?_
  refine rt_gf rfl (gf_lit (y := 1) e0 rfl) ?_
  refine rt_ald rfl rfl ?_
  refine rt_gf rfl (gf_lit (y := 3) e0 rfl) ?_
  refine rt_ald rfl rfl ?_
  refine rt_gf rfl (gf_lit (y := 7) e0 rfl) ?_
  refine rt_ivP rfl rfl rfl oi rfl rfl hk2 ?_
  refine rt_ald rfl rfl ?_
  refine rt_gf rfl g05 ?_
  refine rt_ivP rfl rfl rfl op3 rfl rfl (f4.up (by decide)) ?_
  refine rt_ico rfl (show Int32.ofInt 1 = 1 from rfl) ?_
  exact rt_irt rfl rfl ⟨rfl, rfl⟩
theorem im0_3_115 {hp : List AE} (G : hp_ok GG hp) (hlen : Nat.ble 204 hp.length = true) (h0d : hq hp 0 1 = some (.ref 3)) (hse : hq hp 0 7 = some (.ref 115)) (hD : DH3 hp 182 0 187 0) : ∃ (P : Nat) (Dn : Nat) (lw : Int32) (cl : Int32) (id : Int32) (gl : Nat) (bo : Nat) (pn : List Int64) (ri : List Int32) (lf : List Int32) (wa : List Int32) (fo : List Int32) (dn : List Int64) (ha : List Int32) (pa : List Int32) (bl : List Int32) (rd : List Int32) (rn : List Int64), ∃ h9 : List AE, FR 3 25 [.ref 0, .int (Int32.ofNat 0)] hp (some (.int 1), h9) ∧ h9[133]? = some (dcl133 P Dn lw cl id gl bo) ∧ h9[134]? = some (lng pn) ∧ h9[135]? = some (ia ri) ∧ h9[136]? = some (ia lf) ∧ h9[137]? = some (ia wa) ∧ h9[138]? = some (ia fo) ∧ h9[139]? = some (lng dn) ∧ h9[140]? = some (ia ha) ∧ h9[141]? = some (ia pa) ∧ h9[142]? = some (ia bl) ∧ rd.length = 101 ∧ rn.length = 15 ∧ DF P Dn lw cl id gl bo pn ri lf wa fo dn ha pa bl rd rn ∧ (∀ j, j < 101 → hq hp 182 (0 + j) = (rd[j]?).map Value.int) ∧ (∀ j, j < 15 → hq hp 187 (0 + j) = (rn[j]?).map Value.long) := by
  obtain ⟨d, s, se, ss, lt, fb, tq, gb, e0, -, -, -, -⟩ := oc_0 G
  rw [hq_obj e0] at h0d hse
  have h0d : some (Value.ref d) = some (.ref 3) := h0d
  have hse : some (Value.ref se) = some (.ref 115) := hse
  obtain rfl := Value.ref.inj (Option.some.inj h0d)
  obtain rfl := Value.ref.inj (Option.some.inj hse)
  obtain ⟨P, Dn, lw, cl, id, gl, bo, pn, ri, lf, wa, fo, dn, ha, pa, bl, rd, rn, h0, h1, h2, h3, h4, h5, h6, h7, h8, h9, z1, z2, z3, z4, z5⟩ := hD
  obtain ⟨P2, Dn2, lw2, cl2, id2, gl2, bo2, eb, -, -⟩ := oc_133 G
  obtain ⟨pn2, -, m1, ca1⟩ := al_of (hp := hp) (a := 134) (t := 2) (n := 7) (G.1 134 gc134 rfl).1
  obtain ⟨ri2, -, m2, ca2⟩ := ai_of (hp := hp) (a := 135) (t := 1) (n := 7) (G.1 135 gc135 rfl).1
  obtain ⟨lf2, -, m3, ca3⟩ := ai_of (hp := hp) (a := 136) (t := 1) (n := 7) (G.1 136 gc136 rfl).1
  obtain ⟨wa2, -, m4, ca4⟩ := ai_of (hp := hp) (a := 137) (t := 1) (n := 7) (G.1 137 gc137 rfl).1
  obtain ⟨fo2, -, m5, ca5⟩ := ai_of (hp := hp) (a := 138) (t := 1) (n := 49) (G.1 138 gc138 rfl).1
  obtain ⟨dn2, -, m6, ca6⟩ := al_of (hp := hp) (a := 139) (t := 2) (n := 8) (G.1 139 gc139 rfl).1
  obtain ⟨ha2, -, m7, ca7⟩ := ai_of (hp := hp) (a := 140) (t := 1) (n := 8) (G.1 140 gc140 rfl).1
  obtain ⟨pa2, -, m8, ca8⟩ := ai_of (hp := hp) (a := 141) (t := 1) (n := 8) (G.1 141 gc141 rfl).1
  obtain ⟨bl2, -, m9, ca9⟩ := ai_of (hp := hp) (a := 142) (t := 1) (n := 8) (G.1 142 gc142 rfl).1
  have o1 : ov hp [(133, dcl133 P2 Dn2 lw2 cl2 id2 gl2 bo2), (134, lng pn2), (135, ia ri2), (136, ia lf2), (137, ia wa2), (138, ia fo2), (139, lng dn2), (140, ia ha2), (141, ia pa2), (142, ia bl2), (3, dcl3 P Dn lw cl id gl bo), (4, lng pn), (5, ia ri), (6, ia lf), (7, ia wa), (8, ia fo), (9, lng dn), (10, ia ha), (11, ia pa), (12, ia bl)] = hp := ov_id eb (ov_id ca1 (ov_id ca2 (ov_id ca3 (ov_id ca4 (ov_id ca5 (ov_id ca6 (ov_id ca7 (ov_id ca8 (ov_id ca9 (ov_id h0 (ov_id h1 (ov_id h2 (ov_id h3 (ov_id h4 (ov_id h5 (ov_id h6 (ov_id h7 (ov_id h8 (ov_c1 h9)))))))))))))))))))
  have hcp := x_copy133_3 (H := hp) hlen (P := P) (P2 := P2) (Dn := Dn) (Dn2 := Dn2) (lw := lw) (lw2 := lw2) (cl := cl) (cl2 := cl2) (id := id) (id2 := id2) (gl := gl) (gl2 := gl2) (bo := bo) (bo2 := bo2) z3.2.2.1 ⟨m1, m2, m3, m4, m5, m6, m7, m8, m9⟩
  rw [o1] at hcp
  obtain ⟨⟨w0, w⟩, fw, ew⟩ := co_run sypc_2214 (hp := hp) (ρ := [0]) (As := [.ref 133, .ref 3]) (en_full []) ⟨rfl, rfl, trivial⟩ (fun q hq => absurd hq List.not_mem_nil) G
  obtain ⟨-, q4⟩ := Prod.mk.inj (FR.det fw hcp)
  have G1 : hp_ok GG (ov hp [(133, dcl133 P Dn lw cl id gl bo), (134, lng pn), (135, ia ri), (136, ia lf), (137, ia wa), (138, ia fo), (139, lng dn), (140, ia ha), (141, ia pa), (142, ia bl), (3, dcl3 P Dn lw cl id gl bo), (4, lng pn), (5, ia ri), (6, ia lf), (7, ia wa), (8, ia fo), (9, lng dn), (10, ia ha), (11, ia pa), (12, ia bl)]) := q4 ▸ ew.2.1
  have A1 := ew.1
  rw [q4] at A1
  have hc0 : (ov hp [(133, dcl133 P Dn lw cl id gl bo), (134, lng pn), (135, ia ri), (136, ia lf), (137, ia wa), (138, ia fo), (139, lng dn), (140, ia ha), (141, ia pa), (142, ia bl), (3, dcl3 P Dn lw cl id gl bo), (4, lng pn), (5, ia ri), (6, ia lf), (7, ia wa), (8, ia fo), (9, lng dn), (10, ia ha), (11, ia pa), (12, ia bl)])[133]? = some (dcl133 P Dn lw cl id gl bo) ∧ (ov hp [(133, dcl133 P Dn lw cl id gl bo), (134, lng pn), (135, ia ri), (136, ia lf), (137, ia wa), (138, ia fo), (139, lng dn), (140, ia ha), (141, ia pa), (142, ia bl), (3, dcl3 P Dn lw cl id gl bo), (4, lng pn), (5, ia ri), (6, ia lf), (7, ia wa), (8, ia fo), (9, lng dn), (10, ia ha), (11, ia pa), (12, ia bl)])[134]? = some (lng pn) ∧ (ov hp [(133, dcl133 P Dn lw cl id gl bo), (134, lng pn), (135, ia ri), (136, ia lf), (137, ia wa), (138, ia fo), (139, lng dn), (140, ia ha), (141, ia pa), (142, ia bl), (3, dcl3 P Dn lw cl id gl bo), (4, lng pn), (5, ia ri), (6, ia lf), (7, ia wa), (8, ia fo), (9, lng dn), (10, ia ha), (11, ia pa), (12, ia bl)])[135]? = some (ia ri) ∧ (ov hp [(133, dcl133 P Dn lw cl id gl bo), (134, lng pn), (135, ia ri), (136, ia lf), (137, ia wa), (138, ia fo), (139, lng dn), (140, ia ha), (141, ia pa), (142, ia bl), (3, dcl3 P Dn lw cl id gl bo), (4, lng pn), (5, ia ri), (6, ia lf), (7, ia wa), (8, ia fo), (9, lng dn), (10, ia ha), (11, ia pa), (12, ia bl)])[136]? = some (ia lf) ∧ (ov hp [(133, dcl133 P Dn lw cl id gl bo), (134, lng pn), (135, ia ri), (136, ia lf), (137, ia wa), (138, ia fo), (139, lng dn), (140, ia ha), (141, ia pa), (142, ia bl), (3, dcl3 P Dn lw cl id gl bo), (4, lng pn), (5, ia ri), (6, ia lf), (7, ia wa), (8, ia fo), (9, lng dn), (10, ia ha), (11, ia pa), (12, ia bl)])[137]? = some (ia wa) ∧ (ov hp [(133, dcl133 P Dn lw cl id gl bo), (134, lng pn), (135, ia ri), (136, ia lf), (137, ia wa), (138, ia fo), (139, lng dn), (140, ia ha), (141, ia pa), (142, ia bl), (3, dcl3 P Dn lw cl id gl bo), (4, lng pn), (5, ia ri), (6, ia lf), (7, ia wa), (8, ia fo), (9, lng dn), (10, ia ha), (11, ia pa), (12, ia bl)])[138]? = some (ia fo) ∧ (ov hp [(133, dcl133 P Dn lw cl id gl bo), (134, lng pn), (135, ia ri), (136, ia lf), (137, ia wa), (138, ia fo), (139, lng dn), (140, ia ha), (141, ia pa), (142, ia bl), (3, dcl3 P Dn lw cl id gl bo), (4, lng pn), (5, ia ri), (6, ia lf), (7, ia wa), (8, ia fo), (9, lng dn), (10, ia ha), (11, ia pa), (12, ia bl)])[139]? = some (lng dn) ∧ (ov hp [(133, dcl133 P Dn lw cl id gl bo), (134, lng pn), (135, ia ri), (136, ia lf), (137, ia wa), (138, ia fo), (139, lng dn), (140, ia ha), (141, ia pa), (142, ia bl), (3, dcl3 P Dn lw cl id gl bo), (4, lng pn), (5, ia ri), (6, ia lf), (7, ia wa), (8, ia fo), (9, lng dn), (10, ia ha), (11, ia pa), (12, ia bl)])[140]? = some (ia ha) ∧ (ov hp [(133, dcl133 P Dn lw cl id gl bo), (134, lng pn), (135, ia ri), (136, ia lf), (137, ia wa), (138, ia fo), (139, lng dn), (140, ia ha), (141, ia pa), (142, ia bl), (3, dcl3 P Dn lw cl id gl bo), (4, lng pn), (5, ia ri), (6, ia lf), (7, ia wa), (8, ia fo), (9, lng dn), (10, ia ha), (11, ia pa), (12, ia bl)])[141]? = some (ia pa) ∧ (ov hp [(133, dcl133 P Dn lw cl id gl bo), (134, lng pn), (135, ia ri), (136, ia lf), (137, ia wa), (138, ia fo), (139, lng dn), (140, ia ha), (141, ia pa), (142, ia bl), (3, dcl3 P Dn lw cl id gl bo), (4, lng pn), (5, ia ri), (6, ia lf), (7, ia wa), (8, ia fo), (9, lng dn), (10, ia ha), (11, ia pa), (12, ia bl)])[142]? = some (ia bl) := ⟨ov_at rfl (ov_lt hlen (by decide)), ov_at rfl (ov_lt hlen (by decide)), ov_at rfl (ov_lt hlen (by decide)), ov_at rfl (ov_lt hlen (by decide)), ov_at rfl (ov_lt hlen (by decide)), ov_at rfl (ov_lt hlen (by decide)), ov_at rfl (ov_lt hlen (by decide)), ov_at rfl (ov_lt hlen (by decide)), ov_at rfl (ov_lt hlen (by decide)), ov_at rfl (ov_lt hlen (by decide))⟩
  generalize ov hp [(133, dcl133 P Dn lw cl id gl bo), (134, lng pn), (135, ia ri), (136, ia lf), (137, ia wa), (138, ia fo), (139, lng dn), (140, ia ha), (141, ia pa), (142, ia bl), (3, dcl3 P Dn lw cl id gl bo), (4, lng pn), (5, ia ri), (6, ia lf), (7, ia wa), (8, ia fo), (9, lng dn), (10, ia ha), (11, ia pa), (12, ia bl)] = h1 at hcp G1 A1 hc0
  obtain ⟨⟨h20, h2⟩, f2, x2⟩ := co_run sypc_2215 (hp := h1) (ρ := [0]) (As := [.ref 143, .ref 23]) (en_full []) ⟨rfl, rfl, trivial⟩ (fun q hq => absurd hq List.not_mem_nil) G1
  have q2 := co_no (C := sypt_2215) (by decide +kernel) x2
  have q2 : h20 = none := q2
  subst q2
  obtain ⟨⟨h30, h3⟩, f3, x3⟩ := co_run sypc_2521 (hp := h2) (ρ := [0]) (As := [.ref 151, .ref 115]) (en_full []) ⟨rfl, rfl, trivial⟩ (fun q hq => absurd hq List.not_mem_nil) x2.2.1
  have q3 := co_no (C := sypt_2521) (by decide +kernel) x3
  have q3 : h30 = none := q3
  subst q3
  have G2 := x2.2.1
  have G3 := x3.2.1
  have A2 := x2.1
  have A3 := x3.1
  obtain ⟨an, li, ar, ar0, ar1⟩ := im_arr G
  obtain ⟨fi, oi, -⟩ := ob_at G (a := 132) (ct := gc132) rfl rfl
  obtain ⟨fs, i1, i2⟩ := ob_at G3 (a := 132) (ct := gc132) rfl rfl
  obtain ⟨fb1, ob1, -⟩ := ob_at G (a := 133) (ct := gc133) rfl rfl
  obtain ⟨fb2, ob2, -⟩ := ob_at G1 (a := 143) (ct := gc143) rfl rfl
  obtain ⟨fb3, ob3, -⟩ := ob_at G2 (a := 151) (ct := gc151) rfl rfl
  have hk : FR 2 86 [.ref 132, .ref 3, .ref 23, .ref 115] hp (none, (h3.set 132 (.inr (2, fs.set 0 (.int 1))))) := by
    refine FR_of rfl ?_
    refine rt_ald rfl rfl ?_
    refine rt_gf rfl (gfo G (ct := gc132) (y := 1) (r := 133) rfl rfl (by decide) rfl) ?_
    refine rt_ald rfl rfl ?_
    refine rt_ivP rfl rfl rfl ob1 rfl rfl (hcp.up (by decide)) ?_
    refine rt_ald rfl rfl ?_
    refine rt_gf rfl (gfo G1 (ct := gc132) (y := 2) (r := 143) rfl rfl (by decide) rfl) ?_
    refine rt_ald rfl rfl ?_
    refine rt_ivP rfl rfl rfl ob2 rfl rfl (f2.up (by decide)) ?_
    refine rt_ald rfl rfl ?_
    refine rt_gf rfl (gfo G2 (ct := gc132) (y := 3) (r := 151) rfl rfl (by decide) rfl) ?_
    refine rt_ald rfl rfl ?_
    refine rt_ivP rfl rfl rfl ob3 rfl rfl (f3.up (by decide)) ?_
    refine rt_ald rfl rfl ?_
    refine rt_ico rfl (show Int32.ofInt 1 = 1 from rfl) ?_
    refine rt_put rfl i1 rfl (by omega) (by decide +kernel) ?_
    exact ow_ret rfl rfl rfl
  have u := upd_f (v := .int 1) i1 (show 0 < fs.length by omega)
  have kc : ∀ a, 133 ≤ a → a ≤ 142 → Ceq h1 (h3.set 132 (.inr (2, fs.set 0 (.int 1)))) a := cas10 (m := 133) (kce A2 A3 u (by decide +kernel) (by decide +kernel) (by decide)) (kce A2 A3 u (by decide +kernel) (by decide +kernel) (by decide)) (kce A2 A3 u (by decide +kernel) (by decide +kernel) (by decide)) (kce A2 A3 u (by decide +kernel) (by decide +kernel) (by decide)) (kce A2 A3 u (by decide +kernel) (by decide +kernel) (by decide)) (kce A2 A3 u (by decide +kernel) (by decide +kernel) (by decide)) (kce A2 A3 u (by decide +kernel) (by decide +kernel) (by decide)) (kce A2 A3 u (by decide +kernel) (by decide +kernel) (by decide)) (kce A2 A3 u (by decide +kernel) (by decide +kernel) (by decide)) (kce A2 A3 u (by decide +kernel) (by decide +kernel) (by decide))
  obtain ⟨n0, n1, n2, n3, n4, n5, n6, n7, n8, n9⟩ := hc0
  refine ⟨P, Dn, lw, cl, id, gl, bo, pn, ri, lf, wa, fo, dn, ha, pa, bl, rd, rn, (h3.set 132 (.inr (2, fs.set 0 (.int 1)))), ?_, ce_obj (kc 133 (by decide) (by decide)) n0, ce_lng (kc 134 (by decide) (by decide)) n1, ce_int (kc 135 (by decide) (by decide)) n2, ce_int (kc 136 (by decide) (by decide)) n3, ce_int (kc 137 (by decide) (by decide)) n4, ce_int (kc 138 (by decide) (by decide)) n5, ce_lng (kc 139 (by decide) (by decide)) n6, ce_int (kc 140 (by decide) (by decide)) n7, ce_int (kc 141 (by decide) (by decide)) n8, ce_int (kc 142 (by decide) (by decide)) n9, z1, z2, z3, z4, z5⟩
  refine FR_of rfl ?_
  refine rt_ild rfl rfl ?_
  refine RT_step rfl (fun _ _ => rfl) ?_
  refine RT_el (by decide) ?_
  refine rt_ild rfl rfl ?_
  refine rt_ald rfl rfl ?_
  refine rt_gf rfl (gf_lit (y := 12) e0 rfl) ?_
  refine rt_anP rfl an (by decide) ?_
  refine RT_step rfl (fun _ _ => rfl) ?_
  refine RT_if (by decide) ?_
  refine rt_ald rfl rfl ?_
  refine rt_gf rfl (gf_lit (y := 12) e0 rfl) ?_
  refine rt_ild rfl rfl ?_
  refine rt_aaP rfl ar ar0 (by decide) ?_
  refine rt_ald rfl rfl ?_
  refine rt_gf rfl (gf_lit (y := 1) e0 rfl) ?_
  refine rt_ald rfl rfl ?_
  refine rt_gf rfl (gf_lit (y := 3) e0 rfl) ?_
  refine rt_ald rfl rfl ?_
  refine rt_gf rfl (gf_lit (y := 7) e0 rfl) ?_
  refine rt_ivP rfl rfl rfl oi rfl rfl hk ?_
  refine rt_ico rfl (show Int32.ofInt 1 = 1 from rfl) ?_
  exact rt_irt rfl rfl ⟨rfl, rfl⟩
theorem re0_3_115 {hp : List AE} (G : hp_ok GG hp) (hlen : Nat.ble 204 hp.length = true) (h0d : hq hp 0 1 = some (.ref 3)) (hse : hq hp 0 7 = some (.ref 115)) (hk : hq hp 132 0 = some (.int 1)) (hD : DH133 hp 184 0 189 0) : ∃ (P : Nat) (Dn : Nat) (lw : Int32) (cl : Int32) (id : Int32) (gl : Nat) (bo : Nat) (pn : List Int64) (ri : List Int32) (lf : List Int32) (wa : List Int32) (fo : List Int32) (dn : List Int64) (ha : List Int32) (pa : List Int32) (bl : List Int32) (rd : List Int32) (rn : List Int64), ∃ h9 : List AE, FR 3 35 [.ref 0, .int (Int32.ofNat 0)] hp (some (.int 1), h9) ∧ h9[3]? = some (dcl3 P Dn lw cl id gl bo) ∧ h9[4]? = some (lng pn) ∧ h9[5]? = some (ia ri) ∧ h9[6]? = some (ia lf) ∧ h9[7]? = some (ia wa) ∧ h9[8]? = some (ia fo) ∧ h9[9]? = some (lng dn) ∧ h9[10]? = some (ia ha) ∧ h9[11]? = some (ia pa) ∧ h9[12]? = some (ia bl) ∧ rd.length = 101 ∧ rn.length = 15 ∧ DF P Dn lw cl id gl bo pn ri lf wa fo dn ha pa bl rd rn ∧ (∀ j, j < 101 → hq hp 184 (0 + j) = (rd[j]?).map Value.int) ∧ (∀ j, j < 15 → hq hp 189 (0 + j) = (rn[j]?).map Value.long) := by
  obtain ⟨d, s, se, ss, lt, fb, tq, gb, e0, -, -, -, -⟩ := oc_0 G
  rw [hq_obj e0] at h0d hse
  have h0d : some (Value.ref d) = some (.ref 3) := h0d
  have hse : some (Value.ref se) = some (.ref 115) := hse
  obtain rfl := Value.ref.inj (Option.some.inj h0d)
  obtain rfl := Value.ref.inj (Option.some.inj hse)
  obtain ⟨P, Dn, lw, cl, id, gl, bo, pn, ri, lf, wa, fo, dn, ha, pa, bl, rd, rn, h0, h1, h2, h3, h4, h5, h6, h7, h8, h9, z1, z2, z3, z4, z5⟩ := hD
  obtain ⟨P2, Dn2, lw2, cl2, id2, gl2, bo2, eb, -, -⟩ := oc_3 G
  obtain ⟨pn2, -, m1, ca1⟩ := al_of (hp := hp) (a := 4) (t := 2) (n := 7) (G.1 4 gc4 rfl).1
  obtain ⟨ri2, -, m2, ca2⟩ := ai_of (hp := hp) (a := 5) (t := 1) (n := 7) (G.1 5 gc5 rfl).1
  obtain ⟨lf2, -, m3, ca3⟩ := ai_of (hp := hp) (a := 6) (t := 1) (n := 7) (G.1 6 gc6 rfl).1
  obtain ⟨wa2, -, m4, ca4⟩ := ai_of (hp := hp) (a := 7) (t := 1) (n := 7) (G.1 7 gc7 rfl).1
  obtain ⟨fo2, -, m5, ca5⟩ := ai_of (hp := hp) (a := 8) (t := 1) (n := 49) (G.1 8 gc8 rfl).1
  obtain ⟨dn2, -, m6, ca6⟩ := al_of (hp := hp) (a := 9) (t := 2) (n := 8) (G.1 9 gc9 rfl).1
  obtain ⟨ha2, -, m7, ca7⟩ := ai_of (hp := hp) (a := 10) (t := 1) (n := 8) (G.1 10 gc10 rfl).1
  obtain ⟨pa2, -, m8, ca8⟩ := ai_of (hp := hp) (a := 11) (t := 1) (n := 8) (G.1 11 gc11 rfl).1
  obtain ⟨bl2, -, m9, ca9⟩ := ai_of (hp := hp) (a := 12) (t := 1) (n := 8) (G.1 12 gc12 rfl).1
  have o1 : ov hp [(3, dcl3 P2 Dn2 lw2 cl2 id2 gl2 bo2), (4, lng pn2), (5, ia ri2), (6, ia lf2), (7, ia wa2), (8, ia fo2), (9, lng dn2), (10, ia ha2), (11, ia pa2), (12, ia bl2), (133, dcl133 P Dn lw cl id gl bo), (134, lng pn), (135, ia ri), (136, ia lf), (137, ia wa), (138, ia fo), (139, lng dn), (140, ia ha), (141, ia pa), (142, ia bl)] = hp := ov_id eb (ov_id ca1 (ov_id ca2 (ov_id ca3 (ov_id ca4 (ov_id ca5 (ov_id ca6 (ov_id ca7 (ov_id ca8 (ov_id ca9 (ov_id h0 (ov_id h1 (ov_id h2 (ov_id h3 (ov_id h4 (ov_id h5 (ov_id h6 (ov_id h7 (ov_id h8 (ov_c1 h9)))))))))))))))))))
  have hcp := x_copy3_133 (H := hp) hlen (P := P) (P2 := P2) (Dn := Dn) (Dn2 := Dn2) (lw := lw) (lw2 := lw2) (cl := cl) (cl2 := cl2) (id := id) (id2 := id2) (gl := gl) (gl2 := gl2) (bo := bo) (bo2 := bo2) z3.2.2.1 ⟨m1, m2, m3, m4, m5, m6, m7, m8, m9⟩
  rw [o1] at hcp
  obtain ⟨⟨w0, w⟩, fw, ew⟩ := co_run sypc_2223 (hp := hp) (ρ := [0]) (As := [.ref 3, .ref 133]) (en_full []) ⟨rfl, rfl, trivial⟩ (fun q hq => absurd hq List.not_mem_nil) G
  obtain ⟨-, q4⟩ := Prod.mk.inj (FR.det fw hcp)
  have G1 : hp_ok GG (ov hp [(3, dcl3 P Dn lw cl id gl bo), (4, lng pn), (5, ia ri), (6, ia lf), (7, ia wa), (8, ia fo), (9, lng dn), (10, ia ha), (11, ia pa), (12, ia bl), (133, dcl133 P Dn lw cl id gl bo), (134, lng pn), (135, ia ri), (136, ia lf), (137, ia wa), (138, ia fo), (139, lng dn), (140, ia ha), (141, ia pa), (142, ia bl)]) := q4 ▸ ew.2.1
  have A1 := ew.1
  rw [q4] at A1
  have hc0 : (ov hp [(3, dcl3 P Dn lw cl id gl bo), (4, lng pn), (5, ia ri), (6, ia lf), (7, ia wa), (8, ia fo), (9, lng dn), (10, ia ha), (11, ia pa), (12, ia bl), (133, dcl133 P Dn lw cl id gl bo), (134, lng pn), (135, ia ri), (136, ia lf), (137, ia wa), (138, ia fo), (139, lng dn), (140, ia ha), (141, ia pa), (142, ia bl)])[3]? = some (dcl3 P Dn lw cl id gl bo) ∧ (ov hp [(3, dcl3 P Dn lw cl id gl bo), (4, lng pn), (5, ia ri), (6, ia lf), (7, ia wa), (8, ia fo), (9, lng dn), (10, ia ha), (11, ia pa), (12, ia bl), (133, dcl133 P Dn lw cl id gl bo), (134, lng pn), (135, ia ri), (136, ia lf), (137, ia wa), (138, ia fo), (139, lng dn), (140, ia ha), (141, ia pa), (142, ia bl)])[4]? = some (lng pn) ∧ (ov hp [(3, dcl3 P Dn lw cl id gl bo), (4, lng pn), (5, ia ri), (6, ia lf), (7, ia wa), (8, ia fo), (9, lng dn), (10, ia ha), (11, ia pa), (12, ia bl), (133, dcl133 P Dn lw cl id gl bo), (134, lng pn), (135, ia ri), (136, ia lf), (137, ia wa), (138, ia fo), (139, lng dn), (140, ia ha), (141, ia pa), (142, ia bl)])[5]? = some (ia ri) ∧ (ov hp [(3, dcl3 P Dn lw cl id gl bo), (4, lng pn), (5, ia ri), (6, ia lf), (7, ia wa), (8, ia fo), (9, lng dn), (10, ia ha), (11, ia pa), (12, ia bl), (133, dcl133 P Dn lw cl id gl bo), (134, lng pn), (135, ia ri), (136, ia lf), (137, ia wa), (138, ia fo), (139, lng dn), (140, ia ha), (141, ia pa), (142, ia bl)])[6]? = some (ia lf) ∧ (ov hp [(3, dcl3 P Dn lw cl id gl bo), (4, lng pn), (5, ia ri), (6, ia lf), (7, ia wa), (8, ia fo), (9, lng dn), (10, ia ha), (11, ia pa), (12, ia bl), (133, dcl133 P Dn lw cl id gl bo), (134, lng pn), (135, ia ri), (136, ia lf), (137, ia wa), (138, ia fo), (139, lng dn), (140, ia ha), (141, ia pa), (142, ia bl)])[7]? = some (ia wa) ∧ (ov hp [(3, dcl3 P Dn lw cl id gl bo), (4, lng pn), (5, ia ri), (6, ia lf), (7, ia wa), (8, ia fo), (9, lng dn), (10, ia ha), (11, ia pa), (12, ia bl), (133, dcl133 P Dn lw cl id gl bo), (134, lng pn), (135, ia ri), (136, ia lf), (137, ia wa), (138, ia fo), (139, lng dn), (140, ia ha), (141, ia pa), (142, ia bl)])[8]? = some (ia fo) ∧ (ov hp [(3, dcl3 P Dn lw cl id gl bo), (4, lng pn), (5, ia ri), (6, ia lf), (7, ia wa), (8, ia fo), (9, lng dn), (10, ia ha), (11, ia pa), (12, ia bl), (133, dcl133 P Dn lw cl id gl bo), (134, lng pn), (135, ia ri), (136, ia lf), (137, ia wa), (138, ia fo), (139, lng dn), (140, ia ha), (141, ia pa), (142, ia bl)])[9]? = some (lng dn) ∧ (ov hp [(3, dcl3 P Dn lw cl id gl bo), (4, lng pn), (5, ia ri), (6, ia lf), (7, ia wa), (8, ia fo), (9, lng dn), (10, ia ha), (11, ia pa), (12, ia bl), (133, dcl133 P Dn lw cl id gl bo), (134, lng pn), (135, ia ri), (136, ia lf), (137, ia wa), (138, ia fo), (139, lng dn), (140, ia ha), (141, ia pa), (142, ia bl)])[10]? = some (ia ha) ∧ (ov hp [(3, dcl3 P Dn lw cl id gl bo), (4, lng pn), (5, ia ri), (6, ia lf), (7, ia wa), (8, ia fo), (9, lng dn), (10, ia ha), (11, ia pa), (12, ia bl), (133, dcl133 P Dn lw cl id gl bo), (134, lng pn), (135, ia ri), (136, ia lf), (137, ia wa), (138, ia fo), (139, lng dn), (140, ia ha), (141, ia pa), (142, ia bl)])[11]? = some (ia pa) ∧ (ov hp [(3, dcl3 P Dn lw cl id gl bo), (4, lng pn), (5, ia ri), (6, ia lf), (7, ia wa), (8, ia fo), (9, lng dn), (10, ia ha), (11, ia pa), (12, ia bl), (133, dcl133 P Dn lw cl id gl bo), (134, lng pn), (135, ia ri), (136, ia lf), (137, ia wa), (138, ia fo), (139, lng dn), (140, ia ha), (141, ia pa), (142, ia bl)])[12]? = some (ia bl) := ⟨ov_at rfl (ov_lt hlen (by decide)), ov_at rfl (ov_lt hlen (by decide)), ov_at rfl (ov_lt hlen (by decide)), ov_at rfl (ov_lt hlen (by decide)), ov_at rfl (ov_lt hlen (by decide)), ov_at rfl (ov_lt hlen (by decide)), ov_at rfl (ov_lt hlen (by decide)), ov_at rfl (ov_lt hlen (by decide)), ov_at rfl (ov_lt hlen (by decide)), ov_at rfl (ov_lt hlen (by decide))⟩
  generalize ov hp [(3, dcl3 P Dn lw cl id gl bo), (4, lng pn), (5, ia ri), (6, ia lf), (7, ia wa), (8, ia fo), (9, lng dn), (10, ia ha), (11, ia pa), (12, ia bl), (133, dcl133 P Dn lw cl id gl bo), (134, lng pn), (135, ia ri), (136, ia lf), (137, ia wa), (138, ia fo), (139, lng dn), (140, ia ha), (141, ia pa), (142, ia bl)] = h1 at hcp G1 A1 hc0
  obtain ⟨⟨h20, h2⟩, f2, x2⟩ := co_run sypc_2224 (hp := h1) (ρ := [0]) (As := [.ref 23, .ref 143]) (en_full []) ⟨rfl, rfl, trivial⟩ (fun q hq => absurd hq List.not_mem_nil) G1
  have q2 := co_no (C := sypt_2224) (by decide +kernel) x2
  have q2 : h20 = none := q2
  subst q2
  obtain ⟨⟨h30, h3⟩, f3, x3⟩ := co_run sypc_2532 (hp := h2) (ρ := [0]) (As := [.ref 115, .ref 151]) (en_full []) ⟨rfl, rfl, trivial⟩ (fun q hq => absurd hq List.not_mem_nil) x2.2.1
  have q3 := co_no (C := sypt_2532) (by decide +kernel) x3
  have q3 : h30 = none := q3
  subst q3
  have G2 := x2.2.1
  have G3 := x3.2.1
  have A2 := x2.1
  have A3 := x3.1
  obtain ⟨an, li, ar, ar0, ar1⟩ := im_arr G
  obtain ⟨fi, oi, -⟩ := ob_at G (a := 132) (ct := gc132) rfl rfl
  obtain ⟨fb1, ob1, -⟩ := ob_at G (a := 3) (ct := gc3) rfl rfl
  obtain ⟨fb2, ob2, -⟩ := ob_at G1 (a := 23) (ct := gc23) rfl rfl
  obtain ⟨fb3, ob3, -⟩ := ob_at G2 (a := 115) (ct := gc115) rfl rfl
  obtain ⟨⟨h40, h4⟩, f4, x4⟩ := co_run sypc_49 (hp := h3) (ρ := [0]) (As := [.ref 39]) (en_full []) ⟨rfl, trivial⟩ (fun q hq => absurd hq List.not_mem_nil) G3
  have q5 := co_no (C := sypt_49) (by decide +kernel) x4
  have q5 : h40 = none := q5
  subst q5
  have A4 := x4.1
  have hk2 : FR 2 85 [.ref 132, .ref 3, .ref 23, .ref 115] hp (none, h3) := by
    refine FR_of rfl ?_
    refine rt_ald rfl rfl ?_
    refine rt_ald rfl rfl ?_
    refine rt_gf rfl (gfo G (ct := gc132) (y := 1) (r := 133) rfl rfl (by decide) rfl) ?_
    refine rt_ivP rfl rfl rfl ob1 rfl rfl (hcp.up (by decide)) ?_
    refine rt_ald rfl rfl ?_
    refine rt_ald rfl rfl ?_
    refine rt_gf rfl (gfo G1 (ct := gc132) (y := 2) (r := 143) rfl rfl (by decide) rfl) ?_
    refine rt_ivP rfl rfl rfl ob2 rfl rfl (f2.up (by decide)) ?_
    refine rt_ald rfl rfl ?_
    refine rt_ald rfl rfl ?_
    refine rt_gf rfl (gfo G2 (ct := gc132) (y := 3) (r := 151) rfl rfl (by decide) rfl) ?_
    refine rt_ivP rfl rfl rfl ob3 rfl rfl (f3.up (by decide)) ?_
    exact ow_ret rfl rfl rfl
  obtain ⟨fp3, op3, -⟩ := ob_at G3 (a := 39) (ct := gc39) rfl rfl
  have g05 : ev_gf h3 0 10 5 = some (.ref 39) := gfo G3 (ct := gc0) (y := 5) (r := 39) rfl rfl (by decide) rfl
  have kc : ∀ a, 3 ≤ a → a ≤ 12 → Ceq h1 h4 a := cas10 (m := 3) (kcf A2 A3 A4 (by decide +kernel) (by decide +kernel) (by decide +kernel)) (kcf A2 A3 A4 (by decide +kernel) (by decide +kernel) (by decide +kernel)) (kcf A2 A3 A4 (by decide +kernel) (by decide +kernel) (by decide +kernel)) (kcf A2 A3 A4 (by decide +kernel) (by decide +kernel) (by decide +kernel)) (kcf A2 A3 A4 (by decide +kernel) (by decide +kernel) (by decide +kernel)) (kcf A2 A3 A4 (by decide +kernel) (by decide +kernel) (by decide +kernel)) (kcf A2 A3 A4 (by decide +kernel) (by decide +kernel) (by decide +kernel)) (kcf A2 A3 A4 (by decide +kernel) (by decide +kernel) (by decide +kernel)) (kcf A2 A3 A4 (by decide +kernel) (by decide +kernel) (by decide +kernel)) (kcf A2 A3 A4 (by decide +kernel) (by decide +kernel) (by decide +kernel))
  obtain ⟨n0, n1, n2, n3, n4, n5, n6, n7, n8, n9⟩ := hc0
  refine ⟨P, Dn, lw, cl, id, gl, bo, pn, ri, lf, wa, fo, dn, ha, pa, bl, rd, rn, h4, ?_, ce_obj (kc 3 (by decide) (by decide)) n0, ce_lng (kc 4 (by decide) (by decide)) n1, ce_int (kc 5 (by decide) (by decide)) n2, ce_int (kc 6 (by decide) (by decide)) n3, ce_int (kc 7 (by decide) (by decide)) n4, ce_int (kc 8 (by decide) (by decide)) n5, ce_lng (kc 9 (by decide) (by decide)) n6, ce_int (kc 10 (by decide) (by decide)) n7, ce_int (kc 11 (by decide) (by decide)) n8, ce_int (kc 12 (by decide) (by decide)) n9, z1, z2, z3, z4, z5⟩
  refine FR_of rfl ?_
  refine rt_ild rfl rfl ?_
  refine RT_step rfl (fun _ _ => rfl) ?_
  refine RT_el (by decide) ?_
  refine rt_ild rfl rfl ?_
  refine rt_ald rfl rfl ?_
  refine rt_gf rfl (gf_lit (y := 12) e0 rfl) ?_
  refine rt_anP rfl an (by decide) ?_
  refine RT_step rfl (fun _ _ => rfl) ?_
  refine RT_el (by decide) ?_
  refine rt_ald rfl rfl ?_
  refine rt_gf rfl (gf_lit (y := 12) e0 rfl) ?_
  refine rt_ild rfl rfl ?_
  refine rt_aaP rfl ar ar0 (by decide) ?_
  refine rt_gf rfl (gf_of (n := 4) (G.1 132 gc132 rfl).1 hk) ?_
  refine RT_step rfl (fun _ _ => rfl) ?_
  refine RT_el (by decide) ?_
  refine rt_ald rfl rfl ?_
  refine rt_gf rfl (gf_lit (y := 12) e0 rfl) ?_
  refine rt_ild rfl rfl ?_
  refine rt_aaP rfl ar ar0 (by decide) ?_
  refine rt_ald rfl rfl ?_
  refine rt_gf rfl (gf_lit (y := 1) e0 rfl) ?_
  refine rt_ald rfl rfl ?_
  refine rt_gf rfl (gf_lit (y := 3) e0 rfl) ?_
  refine rt_ald rfl rfl ?_
  refine rt_gf rfl (gf_lit (y := 7) e0 rfl) ?_
  refine rt_ivP rfl rfl rfl oi rfl rfl hk2 ?_
  refine rt_ald rfl rfl ?_
  refine rt_gf rfl g05 ?_
  refine rt_ivP rfl rfl rfl op3 rfl rfl (f4.up (by decide)) ?_
  refine rt_ico rfl (show Int32.ofInt 1 = 1 from rfl) ?_
  exact rt_irt rfl rfl ⟨rfl, rfl⟩
theorem im0_13_110 {hp : List AE} (G : hp_ok GG hp) (hlen : Nat.ble 204 hp.length = true) (h0d : hq hp 0 1 = some (.ref 13)) (hse : hq hp 0 7 = some (.ref 110)) (hD : DH13 hp 182 0 187 0) : ∃ (P : Nat) (Dn : Nat) (lw : Int32) (cl : Int32) (id : Int32) (gl : Nat) (bo : Nat) (pn : List Int64) (ri : List Int32) (lf : List Int32) (wa : List Int32) (fo : List Int32) (dn : List Int64) (ha : List Int32) (pa : List Int32) (bl : List Int32) (rd : List Int32) (rn : List Int64), ∃ h9 : List AE, FR 3 25 [.ref 0, .int (Int32.ofNat 0)] hp (some (.int 1), h9) ∧ h9[133]? = some (dcl133 P Dn lw cl id gl bo) ∧ h9[134]? = some (lng pn) ∧ h9[135]? = some (ia ri) ∧ h9[136]? = some (ia lf) ∧ h9[137]? = some (ia wa) ∧ h9[138]? = some (ia fo) ∧ h9[139]? = some (lng dn) ∧ h9[140]? = some (ia ha) ∧ h9[141]? = some (ia pa) ∧ h9[142]? = some (ia bl) ∧ rd.length = 101 ∧ rn.length = 15 ∧ DF P Dn lw cl id gl bo pn ri lf wa fo dn ha pa bl rd rn ∧ (∀ j, j < 101 → hq hp 182 (0 + j) = (rd[j]?).map Value.int) ∧ (∀ j, j < 15 → hq hp 187 (0 + j) = (rn[j]?).map Value.long) := by
  obtain ⟨d, s, se, ss, lt, fb, tq, gb, e0, -, -, -, -⟩ := oc_0 G
  rw [hq_obj e0] at h0d hse
  have h0d : some (Value.ref d) = some (.ref 13) := h0d
  have hse : some (Value.ref se) = some (.ref 110) := hse
  obtain rfl := Value.ref.inj (Option.some.inj h0d)
  obtain rfl := Value.ref.inj (Option.some.inj hse)
  obtain ⟨P, Dn, lw, cl, id, gl, bo, pn, ri, lf, wa, fo, dn, ha, pa, bl, rd, rn, h0, h1, h2, h3, h4, h5, h6, h7, h8, h9, z1, z2, z3, z4, z5⟩ := hD
  obtain ⟨P2, Dn2, lw2, cl2, id2, gl2, bo2, eb, -, -⟩ := oc_133 G
  obtain ⟨pn2, -, m1, ca1⟩ := al_of (hp := hp) (a := 134) (t := 2) (n := 7) (G.1 134 gc134 rfl).1
  obtain ⟨ri2, -, m2, ca2⟩ := ai_of (hp := hp) (a := 135) (t := 1) (n := 7) (G.1 135 gc135 rfl).1
  obtain ⟨lf2, -, m3, ca3⟩ := ai_of (hp := hp) (a := 136) (t := 1) (n := 7) (G.1 136 gc136 rfl).1
  obtain ⟨wa2, -, m4, ca4⟩ := ai_of (hp := hp) (a := 137) (t := 1) (n := 7) (G.1 137 gc137 rfl).1
  obtain ⟨fo2, -, m5, ca5⟩ := ai_of (hp := hp) (a := 138) (t := 1) (n := 49) (G.1 138 gc138 rfl).1
  obtain ⟨dn2, -, m6, ca6⟩ := al_of (hp := hp) (a := 139) (t := 2) (n := 8) (G.1 139 gc139 rfl).1
  obtain ⟨ha2, -, m7, ca7⟩ := ai_of (hp := hp) (a := 140) (t := 1) (n := 8) (G.1 140 gc140 rfl).1
  obtain ⟨pa2, -, m8, ca8⟩ := ai_of (hp := hp) (a := 141) (t := 1) (n := 8) (G.1 141 gc141 rfl).1
  obtain ⟨bl2, -, m9, ca9⟩ := ai_of (hp := hp) (a := 142) (t := 1) (n := 8) (G.1 142 gc142 rfl).1
  have o1 : ov hp [(133, dcl133 P2 Dn2 lw2 cl2 id2 gl2 bo2), (134, lng pn2), (135, ia ri2), (136, ia lf2), (137, ia wa2), (138, ia fo2), (139, lng dn2), (140, ia ha2), (141, ia pa2), (142, ia bl2), (13, dcl13 P Dn lw cl id gl bo), (14, lng pn), (15, ia ri), (16, ia lf), (17, ia wa), (18, ia fo), (19, lng dn), (20, ia ha), (21, ia pa), (22, ia bl)] = hp := ov_id eb (ov_id ca1 (ov_id ca2 (ov_id ca3 (ov_id ca4 (ov_id ca5 (ov_id ca6 (ov_id ca7 (ov_id ca8 (ov_id ca9 (ov_id h0 (ov_id h1 (ov_id h2 (ov_id h3 (ov_id h4 (ov_id h5 (ov_id h6 (ov_id h7 (ov_id h8 (ov_c1 h9)))))))))))))))))))
  have hcp := x_copy133_13 (H := hp) hlen (P := P) (P2 := P2) (Dn := Dn) (Dn2 := Dn2) (lw := lw) (lw2 := lw2) (cl := cl) (cl2 := cl2) (id := id) (id2 := id2) (gl := gl) (gl2 := gl2) (bo := bo) (bo2 := bo2) z3.2.2.1 ⟨m1, m2, m3, m4, m5, m6, m7, m8, m9⟩
  rw [o1] at hcp
  obtain ⟨⟨w0, w⟩, fw, ew⟩ := co_run sypc_2520 (hp := hp) (ρ := [0]) (As := [.ref 133, .ref 13]) (en_full []) ⟨rfl, rfl, trivial⟩ (fun q hq => absurd hq List.not_mem_nil) G
  obtain ⟨-, q4⟩ := Prod.mk.inj (FR.det fw hcp)
  have G1 : hp_ok GG (ov hp [(133, dcl133 P Dn lw cl id gl bo), (134, lng pn), (135, ia ri), (136, ia lf), (137, ia wa), (138, ia fo), (139, lng dn), (140, ia ha), (141, ia pa), (142, ia bl), (13, dcl13 P Dn lw cl id gl bo), (14, lng pn), (15, ia ri), (16, ia lf), (17, ia wa), (18, ia fo), (19, lng dn), (20, ia ha), (21, ia pa), (22, ia bl)]) := q4 ▸ ew.2.1
  have A1 := ew.1
  rw [q4] at A1
  have hc0 : (ov hp [(133, dcl133 P Dn lw cl id gl bo), (134, lng pn), (135, ia ri), (136, ia lf), (137, ia wa), (138, ia fo), (139, lng dn), (140, ia ha), (141, ia pa), (142, ia bl), (13, dcl13 P Dn lw cl id gl bo), (14, lng pn), (15, ia ri), (16, ia lf), (17, ia wa), (18, ia fo), (19, lng dn), (20, ia ha), (21, ia pa), (22, ia bl)])[133]? = some (dcl133 P Dn lw cl id gl bo) ∧ (ov hp [(133, dcl133 P Dn lw cl id gl bo), (134, lng pn), (135, ia ri), (136, ia lf), (137, ia wa), (138, ia fo), (139, lng dn), (140, ia ha), (141, ia pa), (142, ia bl), (13, dcl13 P Dn lw cl id gl bo), (14, lng pn), (15, ia ri), (16, ia lf), (17, ia wa), (18, ia fo), (19, lng dn), (20, ia ha), (21, ia pa), (22, ia bl)])[134]? = some (lng pn) ∧ (ov hp [(133, dcl133 P Dn lw cl id gl bo), (134, lng pn), (135, ia ri), (136, ia lf), (137, ia wa), (138, ia fo), (139, lng dn), (140, ia ha), (141, ia pa), (142, ia bl), (13, dcl13 P Dn lw cl id gl bo), (14, lng pn), (15, ia ri), (16, ia lf), (17, ia wa), (18, ia fo), (19, lng dn), (20, ia ha), (21, ia pa), (22, ia bl)])[135]? = some (ia ri) ∧ (ov hp [(133, dcl133 P Dn lw cl id gl bo), (134, lng pn), (135, ia ri), (136, ia lf), (137, ia wa), (138, ia fo), (139, lng dn), (140, ia ha), (141, ia pa), (142, ia bl), (13, dcl13 P Dn lw cl id gl bo), (14, lng pn), (15, ia ri), (16, ia lf), (17, ia wa), (18, ia fo), (19, lng dn), (20, ia ha), (21, ia pa), (22, ia bl)])[136]? = some (ia lf) ∧ (ov hp [(133, dcl133 P Dn lw cl id gl bo), (134, lng pn), (135, ia ri), (136, ia lf), (137, ia wa), (138, ia fo), (139, lng dn), (140, ia ha), (141, ia pa), (142, ia bl), (13, dcl13 P Dn lw cl id gl bo), (14, lng pn), (15, ia ri), (16, ia lf), (17, ia wa), (18, ia fo), (19, lng dn), (20, ia ha), (21, ia pa), (22, ia bl)])[137]? = some (ia wa) ∧ (ov hp [(133, dcl133 P Dn lw cl id gl bo), (134, lng pn), (135, ia ri), (136, ia lf), (137, ia wa), (138, ia fo), (139, lng dn), (140, ia ha), (141, ia pa), (142, ia bl), (13, dcl13 P Dn lw cl id gl bo), (14, lng pn), (15, ia ri), (16, ia lf), (17, ia wa), (18, ia fo), (19, lng dn), (20, ia ha), (21, ia pa), (22, ia bl)])[138]? = some (ia fo) ∧ (ov hp [(133, dcl133 P Dn lw cl id gl bo), (134, lng pn), (135, ia ri), (136, ia lf), (137, ia wa), (138, ia fo), (139, lng dn), (140, ia ha), (141, ia pa), (142, ia bl), (13, dcl13 P Dn lw cl id gl bo), (14, lng pn), (15, ia ri), (16, ia lf), (17, ia wa), (18, ia fo), (19, lng dn), (20, ia ha), (21, ia pa), (22, ia bl)])[139]? = some (lng dn) ∧ (ov hp [(133, dcl133 P Dn lw cl id gl bo), (134, lng pn), (135, ia ri), (136, ia lf), (137, ia wa), (138, ia fo), (139, lng dn), (140, ia ha), (141, ia pa), (142, ia bl), (13, dcl13 P Dn lw cl id gl bo), (14, lng pn), (15, ia ri), (16, ia lf), (17, ia wa), (18, ia fo), (19, lng dn), (20, ia ha), (21, ia pa), (22, ia bl)])[140]? = some (ia ha) ∧ (ov hp [(133, dcl133 P Dn lw cl id gl bo), (134, lng pn), (135, ia ri), (136, ia lf), (137, ia wa), (138, ia fo), (139, lng dn), (140, ia ha), (141, ia pa), (142, ia bl), (13, dcl13 P Dn lw cl id gl bo), (14, lng pn), (15, ia ri), (16, ia lf), (17, ia wa), (18, ia fo), (19, lng dn), (20, ia ha), (21, ia pa), (22, ia bl)])[141]? = some (ia pa) ∧ (ov hp [(133, dcl133 P Dn lw cl id gl bo), (134, lng pn), (135, ia ri), (136, ia lf), (137, ia wa), (138, ia fo), (139, lng dn), (140, ia ha), (141, ia pa), (142, ia bl), (13, dcl13 P Dn lw cl id gl bo), (14, lng pn), (15, ia ri), (16, ia lf), (17, ia wa), (18, ia fo), (19, lng dn), (20, ia ha), (21, ia pa), (22, ia bl)])[142]? = some (ia bl) := ⟨ov_at rfl (ov_lt hlen (by decide)), ov_at rfl (ov_lt hlen (by decide)), ov_at rfl (ov_lt hlen (by decide)), ov_at rfl (ov_lt hlen (by decide)), ov_at rfl (ov_lt hlen (by decide)), ov_at rfl (ov_lt hlen (by decide)), ov_at rfl (ov_lt hlen (by decide)), ov_at rfl (ov_lt hlen (by decide)), ov_at rfl (ov_lt hlen (by decide)), ov_at rfl (ov_lt hlen (by decide))⟩
  generalize ov hp [(133, dcl133 P Dn lw cl id gl bo), (134, lng pn), (135, ia ri), (136, ia lf), (137, ia wa), (138, ia fo), (139, lng dn), (140, ia ha), (141, ia pa), (142, ia bl), (13, dcl13 P Dn lw cl id gl bo), (14, lng pn), (15, ia ri), (16, ia lf), (17, ia wa), (18, ia fo), (19, lng dn), (20, ia ha), (21, ia pa), (22, ia bl)] = h1 at hcp G1 A1 hc0
  obtain ⟨⟨h20, h2⟩, f2, x2⟩ := co_run sypc_2215 (hp := h1) (ρ := [0]) (As := [.ref 143, .ref 23]) (en_full []) ⟨rfl, rfl, trivial⟩ (fun q hq => absurd hq List.not_mem_nil) G1
  have q2 := co_no (C := sypt_2215) (by decide +kernel) x2
  have q2 : h20 = none := q2
  subst q2
  obtain ⟨⟨h30, h3⟩, f3, x3⟩ := co_run sypc_2216 (hp := h2) (ρ := [0]) (As := [.ref 151, .ref 110]) (en_full []) ⟨rfl, rfl, trivial⟩ (fun q hq => absurd hq List.not_mem_nil) x2.2.1
  have q3 := co_no (C := sypt_2216) (by decide +kernel) x3
  have q3 : h30 = none := q3
  subst q3
  have G2 := x2.2.1
  have G3 := x3.2.1
  have A2 := x2.1
  have A3 := x3.1
  obtain ⟨an, li, ar, ar0, ar1⟩ := im_arr G
  obtain ⟨fi, oi, -⟩ := ob_at G (a := 132) (ct := gc132) rfl rfl
  obtain ⟨fs, i1, i2⟩ := ob_at G3 (a := 132) (ct := gc132) rfl rfl
  obtain ⟨fb1, ob1, -⟩ := ob_at G (a := 133) (ct := gc133) rfl rfl
  obtain ⟨fb2, ob2, -⟩ := ob_at G1 (a := 143) (ct := gc143) rfl rfl
  obtain ⟨fb3, ob3, -⟩ := ob_at G2 (a := 151) (ct := gc151) rfl rfl
  have hk : FR 2 86 [.ref 132, .ref 13, .ref 23, .ref 110] hp (none, (h3.set 132 (.inr (2, fs.set 0 (.int 1))))) := by
    refine FR_of rfl ?_
    refine rt_ald rfl rfl ?_
    refine rt_gf rfl (gfo G (ct := gc132) (y := 1) (r := 133) rfl rfl (by decide) rfl) ?_
    refine rt_ald rfl rfl ?_
    refine rt_ivP rfl rfl rfl ob1 rfl rfl (hcp.up (by decide)) ?_
    refine rt_ald rfl rfl ?_
    refine rt_gf rfl (gfo G1 (ct := gc132) (y := 2) (r := 143) rfl rfl (by decide) rfl) ?_
    refine rt_ald rfl rfl ?_
    refine rt_ivP rfl rfl rfl ob2 rfl rfl (f2.up (by decide)) ?_
    refine rt_ald rfl rfl ?_
    refine rt_gf rfl (gfo G2 (ct := gc132) (y := 3) (r := 151) rfl rfl (by decide) rfl) ?_
    refine rt_ald rfl rfl ?_
    refine rt_ivP rfl rfl rfl ob3 rfl rfl (f3.up (by decide)) ?_
    refine rt_ald rfl rfl ?_
    refine rt_ico rfl (show Int32.ofInt 1 = 1 from rfl) ?_
    refine rt_put rfl i1 rfl (by omega) (by decide +kernel) ?_
    exact ow_ret rfl rfl rfl
  have u := upd_f (v := .int 1) i1 (show 0 < fs.length by omega)
  have kc : ∀ a, 133 ≤ a → a ≤ 142 → Ceq h1 (h3.set 132 (.inr (2, fs.set 0 (.int 1)))) a := cas10 (m := 133) (kce A2 A3 u (by decide +kernel) (by decide +kernel) (by decide)) (kce A2 A3 u (by decide +kernel) (by decide +kernel) (by decide)) (kce A2 A3 u (by decide +kernel) (by decide +kernel) (by decide)) (kce A2 A3 u (by decide +kernel) (by decide +kernel) (by decide)) (kce A2 A3 u (by decide +kernel) (by decide +kernel) (by decide)) (kce A2 A3 u (by decide +kernel) (by decide +kernel) (by decide)) (kce A2 A3 u (by decide +kernel) (by decide +kernel) (by decide)) (kce A2 A3 u (by decide +kernel) (by decide +kernel) (by decide)) (kce A2 A3 u (by decide +kernel) (by decide +kernel) (by decide)) (kce A2 A3 u (by decide +kernel) (by decide +kernel) (by decide))
  obtain ⟨n0, n1, n2, n3, n4, n5, n6, n7, n8, n9⟩ := hc0
  refine ⟨P, Dn, lw, cl, id, gl, bo, pn, ri, lf, wa, fo, dn, ha, pa, bl, rd, rn, (h3.set 132 (.inr (2, fs.set 0 (.int 1)))), ?_, ce_obj (kc 133 (by decide) (by decide)) n0, ce_lng (kc 134 (by decide) (by decide)) n1, ce_int (kc 135 (by decide) (by decide)) n2, ce_int (kc 136 (by decide) (by decide)) n3, ce_int (kc 137 (by decide) (by decide)) n4, ce_int (kc 138 (by decide) (by decide)) n5, ce_lng (kc 139 (by decide) (by decide)) n6, ce_int (kc 140 (by decide) (by decide)) n7, ce_int (kc 141 (by decide) (by decide)) n8, ce_int (kc 142 (by decide) (by decide)) n9, z1, z2, z3, z4, z5⟩
  refine FR_of rfl ?_
  refine rt_ild rfl rfl ?_
  refine RT_step rfl (fun _ _ => rfl) ?_
  refine RT_el (by decide) ?_
  refine rt_ild rfl rfl ?_
  refine rt_ald rfl rfl ?_
  refine rt_gf rfl (gf_lit (y := 12) e0 rfl) ?_
  refine rt_anP rfl an (by decide) ?_
  refine RT_step rfl (fun _ _ => rfl) ?_
  refine RT_if (by decide) ?_
  refine rt_ald rfl rfl ?_
  refine rt_gf rfl (gf_lit (y := 12) e0 rfl) ?_
  refine rt_ild rfl rfl ?_
  refine rt_aaP rfl ar ar0 (by decide) ?_
  refine rt_ald rfl rfl ?_
  refine rt_gf rfl (gf_lit (y := 1) e0 rfl) ?_
  refine rt_ald rfl rfl ?_
  refine rt_gf rfl (gf_lit (y := 3) e0 rfl) ?_
  refine rt_ald rfl rfl ?_
  refine rt_gf rfl (gf_lit (y := 7) e0 rfl) ?_
  refine rt_ivP rfl rfl rfl oi rfl rfl hk ?_
  refine rt_ico rfl (show Int32.ofInt 1 = 1 from rfl) ?_
  exact rt_irt rfl rfl ⟨rfl, rfl⟩
theorem re0_13_110 {hp : List AE} (G : hp_ok GG hp) (hlen : Nat.ble 204 hp.length = true) (h0d : hq hp 0 1 = some (.ref 13)) (hse : hq hp 0 7 = some (.ref 110)) (hk : hq hp 132 0 = some (.int 1)) (hD : DH133 hp 184 0 189 0) : ∃ (P : Nat) (Dn : Nat) (lw : Int32) (cl : Int32) (id : Int32) (gl : Nat) (bo : Nat) (pn : List Int64) (ri : List Int32) (lf : List Int32) (wa : List Int32) (fo : List Int32) (dn : List Int64) (ha : List Int32) (pa : List Int32) (bl : List Int32) (rd : List Int32) (rn : List Int64), ∃ h9 : List AE, FR 3 35 [.ref 0, .int (Int32.ofNat 0)] hp (some (.int 1), h9) ∧ h9[13]? = some (dcl13 P Dn lw cl id gl bo) ∧ h9[14]? = some (lng pn) ∧ h9[15]? = some (ia ri) ∧ h9[16]? = some (ia lf) ∧ h9[17]? = some (ia wa) ∧ h9[18]? = some (ia fo) ∧ h9[19]? = some (lng dn) ∧ h9[20]? = some (ia ha) ∧ h9[21]? = some (ia pa) ∧ h9[22]? = some (ia bl) ∧ rd.length = 101 ∧ rn.length = 15 ∧ DF P Dn lw cl id gl bo pn ri lf wa fo dn ha pa bl rd rn ∧ (∀ j, j < 101 → hq hp 184 (0 + j) = (rd[j]?).map Value.int) ∧ (∀ j, j < 15 → hq hp 189 (0 + j) = (rn[j]?).map Value.long) := by
  obtain ⟨d, s, se, ss, lt, fb, tq, gb, e0, -, -, -, -⟩ := oc_0 G
  rw [hq_obj e0] at h0d hse
  have h0d : some (Value.ref d) = some (.ref 13) := h0d
  have hse : some (Value.ref se) = some (.ref 110) := hse
  obtain rfl := Value.ref.inj (Option.some.inj h0d)
  obtain rfl := Value.ref.inj (Option.some.inj hse)
  obtain ⟨P, Dn, lw, cl, id, gl, bo, pn, ri, lf, wa, fo, dn, ha, pa, bl, rd, rn, h0, h1, h2, h3, h4, h5, h6, h7, h8, h9, z1, z2, z3, z4, z5⟩ := hD
  obtain ⟨P2, Dn2, lw2, cl2, id2, gl2, bo2, eb, -, -⟩ := oc_13 G
  obtain ⟨pn2, -, m1, ca1⟩ := al_of (hp := hp) (a := 14) (t := 2) (n := 7) (G.1 14 gc14 rfl).1
  obtain ⟨ri2, -, m2, ca2⟩ := ai_of (hp := hp) (a := 15) (t := 1) (n := 7) (G.1 15 gc15 rfl).1
  obtain ⟨lf2, -, m3, ca3⟩ := ai_of (hp := hp) (a := 16) (t := 1) (n := 7) (G.1 16 gc16 rfl).1
  obtain ⟨wa2, -, m4, ca4⟩ := ai_of (hp := hp) (a := 17) (t := 1) (n := 7) (G.1 17 gc17 rfl).1
  obtain ⟨fo2, -, m5, ca5⟩ := ai_of (hp := hp) (a := 18) (t := 1) (n := 49) (G.1 18 gc18 rfl).1
  obtain ⟨dn2, -, m6, ca6⟩ := al_of (hp := hp) (a := 19) (t := 2) (n := 8) (G.1 19 gc19 rfl).1
  obtain ⟨ha2, -, m7, ca7⟩ := ai_of (hp := hp) (a := 20) (t := 1) (n := 8) (G.1 20 gc20 rfl).1
  obtain ⟨pa2, -, m8, ca8⟩ := ai_of (hp := hp) (a := 21) (t := 1) (n := 8) (G.1 21 gc21 rfl).1
  obtain ⟨bl2, -, m9, ca9⟩ := ai_of (hp := hp) (a := 22) (t := 1) (n := 8) (G.1 22 gc22 rfl).1
  have o1 : ov hp [(13, dcl13 P2 Dn2 lw2 cl2 id2 gl2 bo2), (14, lng pn2), (15, ia ri2), (16, ia lf2), (17, ia wa2), (18, ia fo2), (19, lng dn2), (20, ia ha2), (21, ia pa2), (22, ia bl2), (133, dcl133 P Dn lw cl id gl bo), (134, lng pn), (135, ia ri), (136, ia lf), (137, ia wa), (138, ia fo), (139, lng dn), (140, ia ha), (141, ia pa), (142, ia bl)] = hp := ov_id eb (ov_id ca1 (ov_id ca2 (ov_id ca3 (ov_id ca4 (ov_id ca5 (ov_id ca6 (ov_id ca7 (ov_id ca8 (ov_id ca9 (ov_id h0 (ov_id h1 (ov_id h2 (ov_id h3 (ov_id h4 (ov_id h5 (ov_id h6 (ov_id h7 (ov_id h8 (ov_c1 h9)))))))))))))))))))
  have hcp := x_copy13_133 (H := hp) hlen (P := P) (P2 := P2) (Dn := Dn) (Dn2 := Dn2) (lw := lw) (lw2 := lw2) (cl := cl) (cl2 := cl2) (id := id) (id2 := id2) (gl := gl) (gl2 := gl2) (bo := bo) (bo2 := bo2) z3.2.2.1 ⟨m1, m2, m3, m4, m5, m6, m7, m8, m9⟩
  rw [o1] at hcp
  obtain ⟨⟨w0, w⟩, fw, ew⟩ := co_run sypc_2531 (hp := hp) (ρ := [0]) (As := [.ref 13, .ref 133]) (en_full []) ⟨rfl, rfl, trivial⟩ (fun q hq => absurd hq List.not_mem_nil) G
  obtain ⟨-, q4⟩ := Prod.mk.inj (FR.det fw hcp)
  have G1 : hp_ok GG (ov hp [(13, dcl13 P Dn lw cl id gl bo), (14, lng pn), (15, ia ri), (16, ia lf), (17, ia wa), (18, ia fo), (19, lng dn), (20, ia ha), (21, ia pa), (22, ia bl), (133, dcl133 P Dn lw cl id gl bo), (134, lng pn), (135, ia ri), (136, ia lf), (137, ia wa), (138, ia fo), (139, lng dn), (140, ia ha), (141, ia pa), (142, ia bl)]) := q4 ▸ ew.2.1
  have A1 := ew.1
  rw [q4] at A1
  have hc0 : (ov hp [(13, dcl13 P Dn lw cl id gl bo), (14, lng pn), (15, ia ri), (16, ia lf), (17, ia wa), (18, ia fo), (19, lng dn), (20, ia ha), (21, ia pa), (22, ia bl), (133, dcl133 P Dn lw cl id gl bo), (134, lng pn), (135, ia ri), (136, ia lf), (137, ia wa), (138, ia fo), (139, lng dn), (140, ia ha), (141, ia pa), (142, ia bl)])[13]? = some (dcl13 P Dn lw cl id gl bo) ∧ (ov hp [(13, dcl13 P Dn lw cl id gl bo), (14, lng pn), (15, ia ri), (16, ia lf), (17, ia wa), (18, ia fo), (19, lng dn), (20, ia ha), (21, ia pa), (22, ia bl), (133, dcl133 P Dn lw cl id gl bo), (134, lng pn), (135, ia ri), (136, ia lf), (137, ia wa), (138, ia fo), (139, lng dn), (140, ia ha), (141, ia pa), (142, ia bl)])[14]? = some (lng pn) ∧ (ov hp [(13, dcl13 P Dn lw cl id gl bo), (14, lng pn), (15, ia ri), (16, ia lf), (17, ia wa), (18, ia fo), (19, lng dn), (20, ia ha), (21, ia pa), (22, ia bl), (133, dcl133 P Dn lw cl id gl bo), (134, lng pn), (135, ia ri), (136, ia lf), (137, ia wa), (138, ia fo), (139, lng dn), (140, ia ha), (141, ia pa), (142, ia bl)])[15]? = some (ia ri) ∧ (ov hp [(13, dcl13 P Dn lw cl id gl bo), (14, lng pn), (15, ia ri), (16, ia lf), (17, ia wa), (18, ia fo), (19, lng dn), (20, ia ha), (21, ia pa), (22, ia bl), (133, dcl133 P Dn lw cl id gl bo), (134, lng pn), (135, ia ri), (136, ia lf), (137, ia wa), (138, ia fo), (139, lng dn), (140, ia ha), (141, ia pa), (142, ia bl)])[16]? = some (ia lf) ∧ (ov hp [(13, dcl13 P Dn lw cl id gl bo), (14, lng pn), (15, ia ri), (16, ia lf), (17, ia wa), (18, ia fo), (19, lng dn), (20, ia ha), (21, ia pa), (22, ia bl), (133, dcl133 P Dn lw cl id gl bo), (134, lng pn), (135, ia ri), (136, ia lf), (137, ia wa), (138, ia fo), (139, lng dn), (140, ia ha), (141, ia pa), (142, ia bl)])[17]? = some (ia wa) ∧ (ov hp [(13, dcl13 P Dn lw cl id gl bo), (14, lng pn), (15, ia ri), (16, ia lf), (17, ia wa), (18, ia fo), (19, lng dn), (20, ia ha), (21, ia pa), (22, ia bl), (133, dcl133 P Dn lw cl id gl bo), (134, lng pn), (135, ia ri), (136, ia lf), (137, ia wa), (138, ia fo), (139, lng dn), (140, ia ha), (141, ia pa), (142, ia bl)])[18]? = some (ia fo) ∧ (ov hp [(13, dcl13 P Dn lw cl id gl bo), (14, lng pn), (15, ia ri), (16, ia lf), (17, ia wa), (18, ia fo), (19, lng dn), (20, ia ha), (21, ia pa), (22, ia bl), (133, dcl133 P Dn lw cl id gl bo), (134, lng pn), (135, ia ri), (136, ia lf), (137, ia wa), (138, ia fo), (139, lng dn), (140, ia ha), (141, ia pa), (142, ia bl)])[19]? = some (lng dn) ∧ (ov hp [(13, dcl13 P Dn lw cl id gl bo), (14, lng pn), (15, ia ri), (16, ia lf), (17, ia wa), (18, ia fo), (19, lng dn), (20, ia ha), (21, ia pa), (22, ia bl), (133, dcl133 P Dn lw cl id gl bo), (134, lng pn), (135, ia ri), (136, ia lf), (137, ia wa), (138, ia fo), (139, lng dn), (140, ia ha), (141, ia pa), (142, ia bl)])[20]? = some (ia ha) ∧ (ov hp [(13, dcl13 P Dn lw cl id gl bo), (14, lng pn), (15, ia ri), (16, ia lf), (17, ia wa), (18, ia fo), (19, lng dn), (20, ia ha), (21, ia pa), (22, ia bl), (133, dcl133 P Dn lw cl id gl bo), (134, lng pn), (135, ia ri), (136, ia lf), (137, ia wa), (138, ia fo), (139, lng dn), (140, ia ha), (141, ia pa), (142, ia bl)])[21]? = some (ia pa) ∧ (ov hp [(13, dcl13 P Dn lw cl id gl bo), (14, lng pn), (15, ia ri), (16, ia lf), (17, ia wa), (18, ia fo), (19, lng dn), (20, ia ha), (21, ia pa), (22, ia bl), (133, dcl133 P Dn lw cl id gl bo), (134, lng pn), (135, ia ri), (136, ia lf), (137, ia wa), (138, ia fo), (139, lng dn), (140, ia ha), (141, ia pa), (142, ia bl)])[22]? = some (ia bl) := ⟨ov_at rfl (ov_lt hlen (by decide)), ov_at rfl (ov_lt hlen (by decide)), ov_at rfl (ov_lt hlen (by decide)), ov_at rfl (ov_lt hlen (by decide)), ov_at rfl (ov_lt hlen (by decide)), ov_at rfl (ov_lt hlen (by decide)), ov_at rfl (ov_lt hlen (by decide)), ov_at rfl (ov_lt hlen (by decide)), ov_at rfl (ov_lt hlen (by decide)), ov_at rfl (ov_lt hlen (by decide))⟩
  generalize ov hp [(13, dcl13 P Dn lw cl id gl bo), (14, lng pn), (15, ia ri), (16, ia lf), (17, ia wa), (18, ia fo), (19, lng dn), (20, ia ha), (21, ia pa), (22, ia bl), (133, dcl133 P Dn lw cl id gl bo), (134, lng pn), (135, ia ri), (136, ia lf), (137, ia wa), (138, ia fo), (139, lng dn), (140, ia ha), (141, ia pa), (142, ia bl)] = h1 at hcp G1 A1 hc0
  obtain ⟨⟨h20, h2⟩, f2, x2⟩ := co_run sypc_2224 (hp := h1) (ρ := [0]) (As := [.ref 23, .ref 143]) (en_full []) ⟨rfl, rfl, trivial⟩ (fun q hq => absurd hq List.not_mem_nil) G1
  have q2 := co_no (C := sypt_2224) (by decide +kernel) x2
  have q2 : h20 = none := q2
  subst q2
  obtain ⟨⟨h30, h3⟩, f3, x3⟩ := co_run sypc_2225 (hp := h2) (ρ := [0]) (As := [.ref 110, .ref 151]) (en_full []) ⟨rfl, rfl, trivial⟩ (fun q hq => absurd hq List.not_mem_nil) x2.2.1
  have q3 := co_no (C := sypt_2225) (by decide +kernel) x3
  have q3 : h30 = none := q3
  subst q3
  have G2 := x2.2.1
  have G3 := x3.2.1
  have A2 := x2.1
  have A3 := x3.1
  obtain ⟨an, li, ar, ar0, ar1⟩ := im_arr G
  obtain ⟨fi, oi, -⟩ := ob_at G (a := 132) (ct := gc132) rfl rfl
  obtain ⟨fb1, ob1, -⟩ := ob_at G (a := 13) (ct := gc13) rfl rfl
  obtain ⟨fb2, ob2, -⟩ := ob_at G1 (a := 23) (ct := gc23) rfl rfl
  obtain ⟨fb3, ob3, -⟩ := ob_at G2 (a := 110) (ct := gc110) rfl rfl
  obtain ⟨⟨h40, h4⟩, f4, x4⟩ := co_run sypc_49 (hp := h3) (ρ := [0]) (As := [.ref 39]) (en_full []) ⟨rfl, trivial⟩ (fun q hq => absurd hq List.not_mem_nil) G3
  have q5 := co_no (C := sypt_49) (by decide +kernel) x4
  have q5 : h40 = none := q5
  subst q5
  have A4 := x4.1
  have hk2 : FR 2 85 [.ref 132, .ref 13, .ref 23, .ref 110] hp (none, h3) := by
    refine FR_of rfl ?_
    refine rt_ald rfl rfl ?_
    refine rt_ald rfl rfl ?_
    refine rt_gf rfl (gfo G (ct := gc132) (y := 1) (r := 133) rfl rfl (by decide) rfl) ?_
    refine rt_ivP rfl rfl rfl ob1 rfl rfl (hcp.up (by decide)) ?_
    refine rt_ald rfl rfl ?_
    refine rt_ald rfl rfl ?_
    refine rt_gf rfl (gfo G1 (ct := gc132) (y := 2) (r := 143) rfl rfl (by decide) rfl) ?_
    refine rt_ivP rfl rfl rfl ob2 rfl rfl (f2.up (by decide)) ?_
    refine rt_ald rfl rfl ?_
    refine rt_ald rfl rfl ?_
    refine rt_gf rfl (gfo G2 (ct := gc132) (y := 3) (r := 151) rfl rfl (by decide) rfl) ?_
    refine rt_ivP rfl rfl rfl ob3 rfl rfl (f3.up (by decide)) ?_
    exact ow_ret rfl rfl rfl
  obtain ⟨fp3, op3, -⟩ := ob_at G3 (a := 39) (ct := gc39) rfl rfl
  have g05 : ev_gf h3 0 10 5 = some (.ref 39) := gfo G3 (ct := gc0) (y := 5) (r := 39) rfl rfl (by decide) rfl
  have kc : ∀ a, 13 ≤ a → a ≤ 22 → Ceq h1 h4 a := cas10 (m := 13) (kcf A2 A3 A4 (by decide +kernel) (by decide +kernel) (by decide +kernel)) (kcf A2 A3 A4 (by decide +kernel) (by decide +kernel) (by decide +kernel)) (kcf A2 A3 A4 (by decide +kernel) (by decide +kernel) (by decide +kernel)) (kcf A2 A3 A4 (by decide +kernel) (by decide +kernel) (by decide +kernel)) (kcf A2 A3 A4 (by decide +kernel) (by decide +kernel) (by decide +kernel)) (kcf A2 A3 A4 (by decide +kernel) (by decide +kernel) (by decide +kernel)) (kcf A2 A3 A4 (by decide +kernel) (by decide +kernel) (by decide +kernel)) (kcf A2 A3 A4 (by decide +kernel) (by decide +kernel) (by decide +kernel)) (kcf A2 A3 A4 (by decide +kernel) (by decide +kernel) (by decide +kernel)) (kcf A2 A3 A4 (by decide +kernel) (by decide +kernel) (by decide +kernel))
  obtain ⟨n0, n1, n2, n3, n4, n5, n6, n7, n8, n9⟩ := hc0
  refine ⟨P, Dn, lw, cl, id, gl, bo, pn, ri, lf, wa, fo, dn, ha, pa, bl, rd, rn, h4, ?_, ce_obj (kc 13 (by decide) (by decide)) n0, ce_lng (kc 14 (by decide) (by decide)) n1, ce_int (kc 15 (by decide) (by decide)) n2, ce_int (kc 16 (by decide) (by decide)) n3, ce_int (kc 17 (by decide) (by decide)) n4, ce_int (kc 18 (by decide) (by decide)) n5, ce_lng (kc 19 (by decide) (by decide)) n6, ce_int (kc 20 (by decide) (by decide)) n7, ce_int (kc 21 (by decide) (by decide)) n8, ce_int (kc 22 (by decide) (by decide)) n9, z1, z2, z3, z4, z5⟩
  refine FR_of rfl ?_
  refine rt_ild rfl rfl ?_
  refine RT_step rfl (fun _ _ => rfl) ?_
  refine RT_el (by decide) ?_
  refine rt_ild rfl rfl ?_
  refine rt_ald rfl rfl ?_
  refine rt_gf rfl (gf_lit (y := 12) e0 rfl) ?_
  refine rt_anP rfl an (by decide) ?_
  refine RT_step rfl (fun _ _ => rfl) ?_
  refine RT_el (by decide) ?_
  refine rt_ald rfl rfl ?_
  refine rt_gf rfl (gf_lit (y := 12) e0 rfl) ?_
  refine rt_ild rfl rfl ?_
  refine rt_aaP rfl ar ar0 (by decide) ?_
  refine rt_gf rfl (gf_of (n := 4) (G.1 132 gc132 rfl).1 hk) ?_
  refine RT_step rfl (fun _ _ => rfl) ?_
  refine RT_el (by decide) ?_
  refine rt_ald rfl rfl ?_
  refine rt_gf rfl (gf_lit (y := 12) e0 rfl) ?_
  refine rt_ild rfl rfl ?_
  refine rt_aaP rfl ar ar0 (by decide) ?_
  refine rt_ald rfl rfl ?_
  refine rt_gf rfl (gf_lit (y := 1) e0 rfl) ?_
  refine rt_ald rfl rfl ?_
  refine rt_gf rfl (gf_lit (y := 3) e0 rfl) ?_
  refine rt_ald rfl rfl ?_
  refine rt_gf rfl (gf_lit (y := 7) e0 rfl) ?_
  refine rt_ivP rfl rfl rfl oi rfl rfl hk2 ?_
  refine rt_ald rfl rfl ?_
  refine rt_gf rfl g05 ?_
  refine rt_ivP rfl rfl rfl op3 rfl rfl (f4.up (by decide)) ?_
  refine rt_ico rfl (show Int32.ofInt 1 = 1 from rfl) ?_
  exact rt_irt rfl rfl ⟨rfl, rfl⟩
theorem im0_13_115 {hp : List AE} (G : hp_ok GG hp) (hlen : Nat.ble 204 hp.length = true) (h0d : hq hp 0 1 = some (.ref 13)) (hse : hq hp 0 7 = some (.ref 115)) (hD : DH13 hp 182 0 187 0) : ∃ (P : Nat) (Dn : Nat) (lw : Int32) (cl : Int32) (id : Int32) (gl : Nat) (bo : Nat) (pn : List Int64) (ri : List Int32) (lf : List Int32) (wa : List Int32) (fo : List Int32) (dn : List Int64) (ha : List Int32) (pa : List Int32) (bl : List Int32) (rd : List Int32) (rn : List Int64), ∃ h9 : List AE, FR 3 25 [.ref 0, .int (Int32.ofNat 0)] hp (some (.int 1), h9) ∧ h9[133]? = some (dcl133 P Dn lw cl id gl bo) ∧ h9[134]? = some (lng pn) ∧ h9[135]? = some (ia ri) ∧ h9[136]? = some (ia lf) ∧ h9[137]? = some (ia wa) ∧ h9[138]? = some (ia fo) ∧ h9[139]? = some (lng dn) ∧ h9[140]? = some (ia ha) ∧ h9[141]? = some (ia pa) ∧ h9[142]? = some (ia bl) ∧ rd.length = 101 ∧ rn.length = 15 ∧ DF P Dn lw cl id gl bo pn ri lf wa fo dn ha pa bl rd rn ∧ (∀ j, j < 101 → hq hp 182 (0 + j) = (rd[j]?).map Value.int) ∧ (∀ j, j < 15 → hq hp 187 (0 + j) = (rn[j]?).map Value.long) := by
  obtain ⟨d, s, se, ss, lt, fb, tq, gb, e0, -, -, -, -⟩ := oc_0 G
  rw [hq_obj e0] at h0d hse
  have h0d : some (Value.ref d) = some (.ref 13) := h0d
  have hse : some (Value.ref se) = some (.ref 115) := hse
  obtain rfl := Value.ref.inj (Option.some.inj h0d)
  obtain rfl := Value.ref.inj (Option.some.inj hse)
  obtain ⟨P, Dn, lw, cl, id, gl, bo, pn, ri, lf, wa, fo, dn, ha, pa, bl, rd, rn, h0, h1, h2, h3, h4, h5, h6, h7, h8, h9, z1, z2, z3, z4, z5⟩ := hD
  obtain ⟨P2, Dn2, lw2, cl2, id2, gl2, bo2, eb, -, -⟩ := oc_133 G
  obtain ⟨pn2, -, m1, ca1⟩ := al_of (hp := hp) (a := 134) (t := 2) (n := 7) (G.1 134 gc134 rfl).1
  obtain ⟨ri2, -, m2, ca2⟩ := ai_of (hp := hp) (a := 135) (t := 1) (n := 7) (G.1 135 gc135 rfl).1
  obtain ⟨lf2, -, m3, ca3⟩ := ai_of (hp := hp) (a := 136) (t := 1) (n := 7) (G.1 136 gc136 rfl).1
  obtain ⟨wa2, -, m4, ca4⟩ := ai_of (hp := hp) (a := 137) (t := 1) (n := 7) (G.1 137 gc137 rfl).1
  obtain ⟨fo2, -, m5, ca5⟩ := ai_of (hp := hp) (a := 138) (t := 1) (n := 49) (G.1 138 gc138 rfl).1
  obtain ⟨dn2, -, m6, ca6⟩ := al_of (hp := hp) (a := 139) (t := 2) (n := 8) (G.1 139 gc139 rfl).1
  obtain ⟨ha2, -, m7, ca7⟩ := ai_of (hp := hp) (a := 140) (t := 1) (n := 8) (G.1 140 gc140 rfl).1
  obtain ⟨pa2, -, m8, ca8⟩ := ai_of (hp := hp) (a := 141) (t := 1) (n := 8) (G.1 141 gc141 rfl).1
  obtain ⟨bl2, -, m9, ca9⟩ := ai_of (hp := hp) (a := 142) (t := 1) (n := 8) (G.1 142 gc142 rfl).1
  have o1 : ov hp [(133, dcl133 P2 Dn2 lw2 cl2 id2 gl2 bo2), (134, lng pn2), (135, ia ri2), (136, ia lf2), (137, ia wa2), (138, ia fo2), (139, lng dn2), (140, ia ha2), (141, ia pa2), (142, ia bl2), (13, dcl13 P Dn lw cl id gl bo), (14, lng pn), (15, ia ri), (16, ia lf), (17, ia wa), (18, ia fo), (19, lng dn), (20, ia ha), (21, ia pa), (22, ia bl)] = hp := ov_id eb (ov_id ca1 (ov_id ca2 (ov_id ca3 (ov_id ca4 (ov_id ca5 (ov_id ca6 (ov_id ca7 (ov_id ca8 (ov_id ca9 (ov_id h0 (ov_id h1 (ov_id h2 (ov_id h3 (ov_id h4 (ov_id h5 (ov_id h6 (ov_id h7 (ov_id h8 (ov_c1 h9)))))))))))))))))))
  have hcp := x_copy133_13 (H := hp) hlen (P := P) (P2 := P2) (Dn := Dn) (Dn2 := Dn2) (lw := lw) (lw2 := lw2) (cl := cl) (cl2 := cl2) (id := id) (id2 := id2) (gl := gl) (gl2 := gl2) (bo := bo) (bo2 := bo2) z3.2.2.1 ⟨m1, m2, m3, m4, m5, m6, m7, m8, m9⟩
  rw [o1] at hcp
  obtain ⟨⟨w0, w⟩, fw, ew⟩ := co_run sypc_2520 (hp := hp) (ρ := [0]) (As := [.ref 133, .ref 13]) (en_full []) ⟨rfl, rfl, trivial⟩ (fun q hq => absurd hq List.not_mem_nil) G
  obtain ⟨-, q4⟩ := Prod.mk.inj (FR.det fw hcp)
  have G1 : hp_ok GG (ov hp [(133, dcl133 P Dn lw cl id gl bo), (134, lng pn), (135, ia ri), (136, ia lf), (137, ia wa), (138, ia fo), (139, lng dn), (140, ia ha), (141, ia pa), (142, ia bl), (13, dcl13 P Dn lw cl id gl bo), (14, lng pn), (15, ia ri), (16, ia lf), (17, ia wa), (18, ia fo), (19, lng dn), (20, ia ha), (21, ia pa), (22, ia bl)]) := q4 ▸ ew.2.1
  have A1 := ew.1
  rw [q4] at A1
  have hc0 : (ov hp [(133, dcl133 P Dn lw cl id gl bo), (134, lng pn), (135, ia ri), (136, ia lf), (137, ia wa), (138, ia fo), (139, lng dn), (140, ia ha), (141, ia pa), (142, ia bl), (13, dcl13 P Dn lw cl id gl bo), (14, lng pn), (15, ia ri), (16, ia lf), (17, ia wa), (18, ia fo), (19, lng dn), (20, ia ha), (21, ia pa), (22, ia bl)])[133]? = some (dcl133 P Dn lw cl id gl bo) ∧ (ov hp [(133, dcl133 P Dn lw cl id gl bo), (134, lng pn), (135, ia ri), (136, ia lf), (137, ia wa), (138, ia fo), (139, lng dn), (140, ia ha), (141, ia pa), (142, ia bl), (13, dcl13 P Dn lw cl id gl bo), (14, lng pn), (15, ia ri), (16, ia lf), (17, ia wa), (18, ia fo), (19, lng dn), (20, ia ha), (21, ia pa), (22, ia bl)])[134]? = some (lng pn) ∧ (ov hp [(133, dcl133 P Dn lw cl id gl bo), (134, lng pn), (135, ia ri), (136, ia lf), (137, ia wa), (138, ia fo), (139, lng dn), (140, ia ha), (141, ia pa), (142, ia bl), (13, dcl13 P Dn lw cl id gl bo), (14, lng pn), (15, ia ri), (16, ia lf), (17, ia wa), (18, ia fo), (19, lng dn), (20, ia ha), (21, ia pa), (22, ia bl)])[135]? = some (ia ri) ∧ (ov hp [(133, dcl133 P Dn lw cl id gl bo), (134, lng pn), (135, ia ri), (136, ia lf), (137, ia wa), (138, ia fo), (139, lng dn), (140, ia ha), (141, ia pa), (142, ia bl), (13, dcl13 P Dn lw cl id gl bo), (14, lng pn), (15, ia ri), (16, ia lf), (17, ia wa), (18, ia fo), (19, lng dn), (20, ia ha), (21, ia pa), (22, ia bl)])[136]? = some (ia lf) ∧ (ov hp [(133, dcl133 P Dn lw cl id gl bo), (134, lng pn), (135, ia ri), (136, ia lf), (137, ia wa), (138, ia fo), (139, lng dn), (140, ia ha), (141, ia pa), (142, ia bl), (13, dcl13 P Dn lw cl id gl bo), (14, lng pn), (15, ia ri), (16, ia lf), (17, ia wa), (18, ia fo), (19, lng dn), (20, ia ha), (21, ia pa), (22, ia bl)])[137]? = some (ia wa) ∧ (ov hp [(133, dcl133 P Dn lw cl id gl bo), (134, lng pn), (135, ia ri), (136, ia lf), (137, ia wa), (138, ia fo), (139, lng dn), (140, ia ha), (141, ia pa), (142, ia bl), (13, dcl13 P Dn lw cl id gl bo), (14, lng pn), (15, ia ri), (16, ia lf), (17, ia wa), (18, ia fo), (19, lng dn), (20, ia ha), (21, ia pa), (22, ia bl)])[138]? = some (ia fo) ∧ (ov hp [(133, dcl133 P Dn lw cl id gl bo), (134, lng pn), (135, ia ri), (136, ia lf), (137, ia wa), (138, ia fo), (139, lng dn), (140, ia ha), (141, ia pa), (142, ia bl), (13, dcl13 P Dn lw cl id gl bo), (14, lng pn), (15, ia ri), (16, ia lf), (17, ia wa), (18, ia fo), (19, lng dn), (20, ia ha), (21, ia pa), (22, ia bl)])[139]? = some (lng dn) ∧ (ov hp [(133, dcl133 P Dn lw cl id gl bo), (134, lng pn), (135, ia ri), (136, ia lf), (137, ia wa), (138, ia fo), (139, lng dn), (140, ia ha), (141, ia pa), (142, ia bl), (13, dcl13 P Dn lw cl id gl bo), (14, lng pn), (15, ia ri), (16, ia lf), (17, ia wa), (18, ia fo), (19, lng dn), (20, ia ha), (21, ia pa), (22, ia bl)])[140]? = some (ia ha) ∧ (ov hp [(133, dcl133 P Dn lw cl id gl bo), (134, lng pn), (135, ia ri), (136, ia lf), (137, ia wa), (138, ia fo), (139, lng dn), (140, ia ha), (141, ia pa), (142, ia bl), (13, dcl13 P Dn lw cl id gl bo), (14, lng pn), (15, ia ri), (16, ia lf), (17, ia wa), (18, ia fo), (19, lng dn), (20, ia ha), (21, ia pa), (22, ia bl)])[141]? = some (ia pa) ∧ (ov hp [(133, dcl133 P Dn lw cl id gl bo), (134, lng pn), (135, ia ri), (136, ia lf), (137, ia wa), (138, ia fo), (139, lng dn), (140, ia ha), (141, ia pa), (142, ia bl), (13, dcl13 P Dn lw cl id gl bo), (14, lng pn), (15, ia ri), (16, ia lf), (17, ia wa), (18, ia fo), (19, lng dn), (20, ia ha), (21, ia pa), (22, ia bl)])[142]? = some (ia bl) := ⟨ov_at rfl (ov_lt hlen (by decide)), ov_at rfl (ov_lt hlen (by decide)), ov_at rfl (ov_lt hlen (by decide)), ov_at rfl (ov_lt hlen (by decide)), ov_at rfl (ov_lt hlen (by decide)), ov_at rfl (ov_lt hlen (by decide)), ov_at rfl (ov_lt hlen (by decide)), ov_at rfl (ov_lt hlen (by decide)), ov_at rfl (ov_lt hlen (by decide)), ov_at rfl (ov_lt hlen (by decide))⟩
  generalize ov hp [(133, dcl133 P Dn lw cl id gl bo), (134, lng pn), (135, ia ri), (136, ia lf), (137, ia wa), (138, ia fo), (139, lng dn), (140, ia ha), (141, ia pa), (142, ia bl), (13, dcl13 P Dn lw cl id gl bo), (14, lng pn), (15, ia ri), (16, ia lf), (17, ia wa), (18, ia fo), (19, lng dn), (20, ia ha), (21, ia pa), (22, ia bl)] = h1 at hcp G1 A1 hc0
  obtain ⟨⟨h20, h2⟩, f2, x2⟩ := co_run sypc_2215 (hp := h1) (ρ := [0]) (As := [.ref 143, .ref 23]) (en_full []) ⟨rfl, rfl, trivial⟩ (fun q hq => absurd hq List.not_mem_nil) G1
  have q2 := co_no (C := sypt_2215) (by decide +kernel) x2
  have q2 : h20 = none := q2
  subst q2
  obtain ⟨⟨h30, h3⟩, f3, x3⟩ := co_run sypc_2521 (hp := h2) (ρ := [0]) (As := [.ref 151, .ref 115]) (en_full []) ⟨rfl, rfl, trivial⟩ (fun q hq => absurd hq List.not_mem_nil) x2.2.1
  have q3 := co_no (C := sypt_2521) (by decide +kernel) x3
  have q3 : h30 = none := q3
  subst q3
  have G2 := x2.2.1
  have G3 := x3.2.1
  have A2 := x2.1
  have A3 := x3.1
  obtain ⟨an, li, ar, ar0, ar1⟩ := im_arr G
  obtain ⟨fi, oi, -⟩ := ob_at G (a := 132) (ct := gc132) rfl rfl
  obtain ⟨fs, i1, i2⟩ := ob_at G3 (a := 132) (ct := gc132) rfl rfl
  obtain ⟨fb1, ob1, -⟩ := ob_at G (a := 133) (ct := gc133) rfl rfl
  obtain ⟨fb2, ob2, -⟩ := ob_at G1 (a := 143) (ct := gc143) rfl rfl
  obtain ⟨fb3, ob3, -⟩ := ob_at G2 (a := 151) (ct := gc151) rfl rfl
  have hk : FR 2 86 [.ref 132, .ref 13, .ref 23, .ref 115] hp (none, (h3.set 132 (.inr (2, fs.set 0 (.int 1))))) := by
    refine FR_of rfl ?_
    refine rt_ald rfl rfl ?_
    refine rt_gf rfl (gfo G (ct := gc132) (y := 1) (r := 133) rfl rfl (by decide) rfl) ?_
    refine rt_ald rfl rfl ?_
    refine rt_ivP rfl rfl rfl ob1 rfl rfl (hcp.up (by decide)) ?_
    refine rt_ald rfl rfl ?_
    refine rt_gf rfl (gfo G1 (ct := gc132) (y := 2) (r := 143) rfl rfl (by decide) rfl) ?_
    refine rt_ald rfl rfl ?_
    refine rt_ivP rfl rfl rfl ob2 rfl rfl (f2.up (by decide)) ?_
    refine rt_ald rfl rfl ?_
    refine rt_gf rfl (gfo G2 (ct := gc132) (y := 3) (r := 151) rfl rfl (by decide) rfl) ?_
    refine rt_ald rfl rfl ?_
    refine rt_ivP rfl rfl rfl ob3 rfl rfl (f3.up (by decide)) ?_
    refine rt_ald rfl rfl ?_
    refine rt_ico rfl (show Int32.ofInt 1 = 1 from rfl) ?_
    refine rt_put rfl i1 rfl (by omega) (by decide +kernel) ?_
    exact ow_ret rfl rfl rfl
  have u := upd_f (v := .int 1) i1 (show 0 < fs.length by omega)
  have kc : ∀ a, 133 ≤ a → a ≤ 142 → Ceq h1 (h3.set 132 (.inr (2, fs.set 0 (.int 1)))) a := cas10 (m := 133) (kce A2 A3 u (by decide +kernel) (by decide +kernel) (by decide)) (kce A2 A3 u (by decide +kernel) (by decide +kernel) (by decide)) (kce A2 A3 u (by decide +kernel) (by decide +kernel) (by decide)) (kce A2 A3 u (by decide +kernel) (by decide +kernel) (by decide)) (kce A2 A3 u (by decide +kernel) (by decide +kernel) (by decide)) (kce A2 A3 u (by decide +kernel) (by decide +kernel) (by decide)) (kce A2 A3 u (by decide +kernel) (by decide +kernel) (by decide)) (kce A2 A3 u (by decide +kernel) (by decide +kernel) (by decide)) (kce A2 A3 u (by decide +kernel) (by decide +kernel) (by decide)) (kce A2 A3 u (by decide +kernel) (by decide +kernel) (by decide))
  obtain ⟨n0, n1, n2, n3, n4, n5, n6, n7, n8, n9⟩ := hc0
  refine ⟨P, Dn, lw, cl, id, gl, bo, pn, ri, lf, wa, fo, dn, ha, pa, bl, rd, rn, (h3.set 132 (.inr (2, fs.set 0 (.int 1)))), ?_, ce_obj (kc 133 (by decide) (by decide)) n0, ce_lng (kc 134 (by decide) (by decide)) n1, ce_int (kc 135 (by decide) (by decide)) n2, ce_int (kc 136 (by decide) (by decide)) n3, ce_int (kc 137 (by decide) (by decide)) n4, ce_int (kc 138 (by decide) (by decide)) n5, ce_lng (kc 139 (by decide) (by decide)) n6, ce_int (kc 140 (by decide) (by decide)) n7, ce_int (kc 141 (by decide) (by decide)) n8, ce_int (kc 142 (by decide) (by decide)) n9, z1, z2, z3, z4, z5⟩
  refine FR_of rfl ?_
  refine rt_ild rfl rfl ?_
  refine RT_step rfl (fun _ _ => rfl) ?_
  refine RT_el (by decide) ?_
  refine rt_ild rfl rfl ?_
  refine rt_ald rfl rfl ?_
  refine rt_gf rfl (gf_lit (y := 12) e0 rfl) ?_
  refine rt_anP rfl an (by decide) ?_
  refine RT_step rfl (fun _ _ => rfl) ?_
  refine RT_if (by decide) ?_
  refine rt_ald rfl rfl ?_
  refine rt_gf rfl (gf_lit (y := 12) e0 rfl) ?_
  refine rt_ild rfl rfl ?_
  refine rt_aaP rfl ar ar0 (by decide) ?_
  refine rt_ald rfl rfl ?_
  refine rt_gf rfl (gf_lit (y := 1) e0 rfl) ?_
  refine rt_ald rfl rfl ?_
  refine rt_gf rfl (gf_lit (y := 3) e0 rfl) ?_
  refine rt_ald rfl rfl ?_
  refine rt_gf rfl (gf_lit (y := 7) e0 rfl) ?_
  refine rt_ivP rfl rfl rfl oi rfl rfl hk ?_
  refine rt_ico rfl (show Int32.ofInt 1 = 1 from rfl) ?_
  exact rt_irt rfl rfl ⟨rfl, rfl⟩
theorem re0_13_115 {hp : List AE} (G : hp_ok GG hp) (hlen : Nat.ble 204 hp.length = true) (h0d : hq hp 0 1 = some (.ref 13)) (hse : hq hp 0 7 = some (.ref 115)) (hk : hq hp 132 0 = some (.int 1)) (hD : DH133 hp 184 0 189 0) : ∃ (P : Nat) (Dn : Nat) (lw : Int32) (cl : Int32) (id : Int32) (gl : Nat) (bo : Nat) (pn : List Int64) (ri : List Int32) (lf : List Int32) (wa : List Int32) (fo : List Int32) (dn : List Int64) (ha : List Int32) (pa : List Int32) (bl : List Int32) (rd : List Int32) (rn : List Int64), ∃ h9 : List AE, FR 3 35 [.ref 0, .int (Int32.ofNat 0)] hp (some (.int 1), h9) ∧ h9[13]? = some (dcl13 P Dn lw cl id gl bo) ∧ h9[14]? = some (lng pn) ∧ h9[15]? = some (ia ri) ∧ h9[16]? = some (ia lf) ∧ h9[17]? = some (ia wa) ∧ h9[18]? = some (ia fo) ∧ h9[19]? = some (lng dn) ∧ h9[20]? = some (ia ha) ∧ h9[21]? = some (ia pa) ∧ h9[22]? = some (ia bl) ∧ rd.length = 101 ∧ rn.length = 15 ∧ DF P Dn lw cl id gl bo pn ri lf wa fo dn ha pa bl rd rn ∧ (∀ j, j < 101 → hq hp 184 (0 + j) = (rd[j]?).map Value.int) ∧ (∀ j, j < 15 → hq hp 189 (0 + j) = (rn[j]?).map Value.long) := by
  obtain ⟨d, s, se, ss, lt, fb, tq, gb, e0, -, -, -, -⟩ := oc_0 G
  rw [hq_obj e0] at h0d hse
  have h0d : some (Value.ref d) = some (.ref 13) := h0d
  have hse : some (Value.ref se) = some (.ref 115) := hse
  obtain rfl := Value.ref.inj (Option.some.inj h0d)
  obtain rfl := Value.ref.inj (Option.some.inj hse)
  obtain ⟨P, Dn, lw, cl, id, gl, bo, pn, ri, lf, wa, fo, dn, ha, pa, bl, rd, rn, h0, h1, h2, h3, h4, h5, h6, h7, h8, h9, z1, z2, z3, z4, z5⟩ := hD
  obtain ⟨P2, Dn2, lw2, cl2, id2, gl2, bo2, eb, -, -⟩ := oc_13 G
  obtain ⟨pn2, -, m1, ca1⟩ := al_of (hp := hp) (a := 14) (t := 2) (n := 7) (G.1 14 gc14 rfl).1
  obtain ⟨ri2, -, m2, ca2⟩ := ai_of (hp := hp) (a := 15) (t := 1) (n := 7) (G.1 15 gc15 rfl).1
  obtain ⟨lf2, -, m3, ca3⟩ := ai_of (hp := hp) (a := 16) (t := 1) (n := 7) (G.1 16 gc16 rfl).1
  obtain ⟨wa2, -, m4, ca4⟩ := ai_of (hp := hp) (a := 17) (t := 1) (n := 7) (G.1 17 gc17 rfl).1
  obtain ⟨fo2, -, m5, ca5⟩ := ai_of (hp := hp) (a := 18) (t := 1) (n := 49) (G.1 18 gc18 rfl).1
  obtain ⟨dn2, -, m6, ca6⟩ := al_of (hp := hp) (a := 19) (t := 2) (n := 8) (G.1 19 gc19 rfl).1
  obtain ⟨ha2, -, m7, ca7⟩ := ai_of (hp := hp) (a := 20) (t := 1) (n := 8) (G.1 20 gc20 rfl).1
  obtain ⟨pa2, -, m8, ca8⟩ := ai_of (hp := hp) (a := 21) (t := 1) (n := 8) (G.1 21 gc21 rfl).1
  obtain ⟨bl2, -, m9, ca9⟩ := ai_of (hp := hp) (a := 22) (t := 1) (n := 8) (G.1 22 gc22 rfl).1
  have o1 : ov hp [(13, dcl13 P2 Dn2 lw2 cl2 id2 gl2 bo2), (14, lng pn2), (15, ia ri2), (16, ia lf2), (17, ia wa2), (18, ia fo2), (19, lng dn2), (20, ia ha2), (21, ia pa2), (22, ia bl2), (133, dcl133 P Dn lw cl id gl bo), (134, lng pn), (135, ia ri), (136, ia lf), (137, ia wa), (138, ia fo), (139, lng dn), (140, ia ha), (141, ia pa), (142, ia bl)] = hp := ov_id eb (ov_id ca1 (ov_id ca2 (ov_id ca3 (ov_id ca4 (ov_id ca5 (ov_id ca6 (ov_id ca7 (ov_id ca8 (ov_id ca9 (ov_id h0 (ov_id h1 (ov_id h2 (ov_id h3 (ov_id h4 (ov_id h5 (ov_id h6 (ov_id h7 (ov_id h8 (ov_c1 h9)))))))))))))))))))
  have hcp := x_copy13_133 (H := hp) hlen (P := P) (P2 := P2) (Dn := Dn) (Dn2 := Dn2) (lw := lw) (lw2 := lw2) (cl := cl) (cl2 := cl2) (id := id) (id2 := id2) (gl := gl) (gl2 := gl2) (bo := bo) (bo2 := bo2) z3.2.2.1 ⟨m1, m2, m3, m4, m5, m6, m7, m8, m9⟩
  rw [o1] at hcp
  obtain ⟨⟨w0, w⟩, fw, ew⟩ := co_run sypc_2531 (hp := hp) (ρ := [0]) (As := [.ref 13, .ref 133]) (en_full []) ⟨rfl, rfl, trivial⟩ (fun q hq => absurd hq List.not_mem_nil) G
  obtain ⟨-, q4⟩ := Prod.mk.inj (FR.det fw hcp)
  have G1 : hp_ok GG (ov hp [(13, dcl13 P Dn lw cl id gl bo), (14, lng pn), (15, ia ri), (16, ia lf), (17, ia wa), (18, ia fo), (19, lng dn), (20, ia ha), (21, ia pa), (22, ia bl), (133, dcl133 P Dn lw cl id gl bo), (134, lng pn), (135, ia ri), (136, ia lf), (137, ia wa), (138, ia fo), (139, lng dn), (140, ia ha), (141, ia pa), (142, ia bl)]) := q4 ▸ ew.2.1
  have A1 := ew.1
  rw [q4] at A1
  have hc0 : (ov hp [(13, dcl13 P Dn lw cl id gl bo), (14, lng pn), (15, ia ri), (16, ia lf), (17, ia wa), (18, ia fo), (19, lng dn), (20, ia ha), (21, ia pa), (22, ia bl), (133, dcl133 P Dn lw cl id gl bo), (134, lng pn), (135, ia ri), (136, ia lf), (137, ia wa), (138, ia fo), (139, lng dn), (140, ia ha), (141, ia pa), (142, ia bl)])[13]? = some (dcl13 P Dn lw cl id gl bo) ∧ (ov hp [(13, dcl13 P Dn lw cl id gl bo), (14, lng pn), (15, ia ri), (16, ia lf), (17, ia wa), (18, ia fo), (19, lng dn), (20, ia ha), (21, ia pa), (22, ia bl), (133, dcl133 P Dn lw cl id gl bo), (134, lng pn), (135, ia ri), (136, ia lf), (137, ia wa), (138, ia fo), (139, lng dn), (140, ia ha), (141, ia pa), (142, ia bl)])[14]? = some (lng pn) ∧ (ov hp [(13, dcl13 P Dn lw cl id gl bo), (14, lng pn), (15, ia ri), (16, ia lf), (17, ia wa), (18, ia fo), (19, lng dn), (20, ia ha), (21, ia pa), (22, ia bl), (133, dcl133 P Dn lw cl id gl bo), (134, lng pn), (135, ia ri), (136, ia lf), (137, ia wa), (138, ia fo), (139, lng dn), (140, ia ha), (141, ia pa), (142, ia bl)])[15]? = some (ia ri) ∧ (ov hp [(13, dcl13 P Dn lw cl id gl bo), (14, lng pn), (15, ia ri), (16, ia lf), (17, ia wa), (18, ia fo), (19, lng dn), (20, ia ha), (21, ia pa), (22, ia bl), (133, dcl133 P Dn lw cl id gl bo), (134, lng pn), (135, ia ri), (136, ia lf), (137, ia wa), (138, ia fo), (139, lng dn), (140, ia ha), (141, ia pa), (142, ia bl)])[16]? = some (ia lf) ∧ (ov hp [(13, dcl13 P Dn lw cl id gl bo), (14, lng pn), (15, ia ri), (16, ia lf), (17, ia wa), (18, ia fo), (19, lng dn), (20, ia ha), (21, ia pa), (22, ia bl), (133, dcl133 P Dn lw cl id gl bo), (134, lng pn), (135, ia ri), (136, ia lf), (137, ia wa), (138, ia fo), (139, lng dn), (140, ia ha), (141, ia pa), (142, ia bl)])[17]? = some (ia wa) ∧ (ov hp [(13, dcl13 P Dn lw cl id gl bo), (14, lng pn), (15, ia ri), (16, ia lf), (17, ia wa), (18, ia fo), (19, lng dn), (20, ia ha), (21, ia pa), (22, ia bl), (133, dcl133 P Dn lw cl id gl bo), (134, lng pn), (135, ia ri), (136, ia lf), (137, ia wa), (138, ia fo), (139, lng dn), (140, ia ha), (141, ia pa), (142, ia bl)])[18]? = some (ia fo) ∧ (ov hp [(13, dcl13 P Dn lw cl id gl bo), (14, lng pn), (15, ia ri), (16, ia lf), (17, ia wa), (18, ia fo), (19, lng dn), (20, ia ha), (21, ia pa), (22, ia bl), (133, dcl133 P Dn lw cl id gl bo), (134, lng pn), (135, ia ri), (136, ia lf), (137, ia wa), (138, ia fo), (139, lng dn), (140, ia ha), (141, ia pa), (142, ia bl)])[19]? = some (lng dn) ∧ (ov hp [(13, dcl13 P Dn lw cl id gl bo), (14, lng pn), (15, ia ri), (16, ia lf), (17, ia wa), (18, ia fo), (19, lng dn), (20, ia ha), (21, ia pa), (22, ia bl), (133, dcl133 P Dn lw cl id gl bo), (134, lng pn), (135, ia ri), (136, ia lf), (137, ia wa), (138, ia fo), (139, lng dn), (140, ia ha), (141, ia pa), (142, ia bl)])[20]? = some (ia ha) ∧ (ov hp [(13, dcl13 P Dn lw cl id gl bo), (14, lng pn), (15, ia ri), (16, ia lf), (17, ia wa), (18, ia fo), (19, lng dn), (20, ia ha), (21, ia pa), (22, ia bl), (133, dcl133 P Dn lw cl id gl bo), (134, lng pn), (135, ia ri), (136, ia lf), (137, ia wa), (138, ia fo), (139, lng dn), (140, ia ha), (141, ia pa), (142, ia bl)])[21]? = some (ia pa) ∧ (ov hp [(13, dcl13 P Dn lw cl id gl bo), (14, lng pn), (15, ia ri), (16, ia lf), (17, ia wa), (18, ia fo), (19, lng dn), (20, ia ha), (21, ia pa), (22, ia bl), (133, dcl133 P Dn lw cl id gl bo), (134, lng pn), (135, ia ri), (136, ia lf), (137, ia wa), (138, ia fo), (139, lng dn), (140, ia ha), (141, ia pa), (142, ia bl)])[22]? = some (ia bl) := ⟨ov_at rfl (ov_lt hlen (by decide)), ov_at rfl (ov_lt hlen (by decide)), ov_at rfl (ov_lt hlen (by decide)), ov_at rfl (ov_lt hlen (by decide)), ov_at rfl (ov_lt hlen (by decide)), ov_at rfl (ov_lt hlen (by decide)), ov_at rfl (ov_lt hlen (by decide)), ov_at rfl (ov_lt hlen (by decide)), ov_at rfl (ov_lt hlen (by decide)), ov_at rfl (ov_lt hlen (by decide))⟩
  generalize ov hp [(13, dcl13 P Dn lw cl id gl bo), (14, lng pn), (15, ia ri), (16, ia lf), (17, ia wa), (18, ia fo), (19, lng dn), (20, ia ha), (21, ia pa), (22, ia bl), (133, dcl133 P Dn lw cl id gl bo), (134, lng pn), (135, ia ri), (136, ia lf), (137, ia wa), (138, ia fo), (139, lng dn), (140, ia ha), (141, ia pa), (142, ia bl)] = h1 at hcp G1 A1 hc0
  obtain ⟨⟨h20, h2⟩, f2, x2⟩ := co_run sypc_2224 (hp := h1) (ρ := [0]) (As := [.ref 23, .ref 143]) (en_full []) ⟨rfl, rfl, trivial⟩ (fun q hq => absurd hq List.not_mem_nil) G1
  have q2 := co_no (C := sypt_2224) (by decide +kernel) x2
  have q2 : h20 = none := q2
  subst q2
  obtain ⟨⟨h30, h3⟩, f3, x3⟩ := co_run sypc_2532 (hp := h2) (ρ := [0]) (As := [.ref 115, .ref 151]) (en_full []) ⟨rfl, rfl, trivial⟩ (fun q hq => absurd hq List.not_mem_nil) x2.2.1
  have q3 := co_no (C := sypt_2532) (by decide +kernel) x3
  have q3 : h30 = none := q3
  subst q3
  have G2 := x2.2.1
  have G3 := x3.2.1
  have A2 := x2.1
  have A3 := x3.1
  obtain ⟨an, li, ar, ar0, ar1⟩ := im_arr G
  obtain ⟨fi, oi, -⟩ := ob_at G (a := 132) (ct := gc132) rfl rfl
  obtain ⟨fb1, ob1, -⟩ := ob_at G (a := 13) (ct := gc13) rfl rfl
  obtain ⟨fb2, ob2, -⟩ := ob_at G1 (a := 23) (ct := gc23) rfl rfl
  obtain ⟨fb3, ob3, -⟩ := ob_at G2 (a := 115) (ct := gc115) rfl rfl
  obtain ⟨⟨h40, h4⟩, f4, x4⟩ := co_run sypc_49 (hp := h3) (ρ := [0]) (As := [.ref 39]) (en_full []) ⟨rfl, trivial⟩ (fun q hq => absurd hq List.not_mem_nil) G3
  have q5 := co_no (C := sypt_49) (by decide +kernel) x4
  have q5 : h40 = none := q5
  subst q5
  have A4 := x4.1
  have hk2 : FR 2 85 [.ref 132, .ref 13, .ref 23, .ref 115] hp (none, h3) := by
    refine FR_of rfl ?_
    refine rt_ald rfl rfl ?_
    refine rt_ald rfl rfl ?_
    refine rt_gf rfl (gfo G (ct := gc132) (y := 1) (r := 133) rfl rfl (by decide) rfl) ?_
    refine rt_ivP rfl rfl rfl ob1 rfl rfl (hcp.up (by decide)) ?_
    refine rt_ald rfl rfl ?_
    refine rt_ald rfl rfl ?_
    refine rt_gf rfl (gfo G1 (ct := gc132) (y := 2) (r := 143) rfl rfl (by decide) rfl) ?_
    refine rt_ivP rfl rfl rfl ob2 rfl rfl (f2.up (by decide)) ?_
    refine rt_ald rfl rfl ?_
    refine rt_ald rfl rfl ?_
    refine rt_gf rfl (gfo G2 (ct := gc132) (y := 3) (r := 151) rfl rfl (by decide) rfl) ?_
    refine rt_ivP rfl rfl rfl ob3 rfl rfl (f3.up (by decide)) ?_
    exact ow_ret rfl rfl rfl
  obtain ⟨fp3, op3, -⟩ := ob_at G3 (a := 39) (ct := gc39) rfl rfl
  have g05 : ev_gf h3 0 10 5 = some (.ref 39) := gfo G3 (ct := gc0) (y := 5) (r := 39) rfl rfl (by decide) rfl
  have kc : ∀ a, 13 ≤ a → a ≤ 22 → Ceq h1 h4 a := cas10 (m := 13) (kcf A2 A3 A4 (by decide +kernel) (by decide +kernel) (by decide +kernel)) (kcf A2 A3 A4 (by decide +kernel) (by decide +kernel) (by decide +kernel)) (kcf A2 A3 A4 (by decide +kernel) (by decide +kernel) (by decide +kernel)) (kcf A2 A3 A4 (by decide +kernel) (by decide +kernel) (by decide +kernel)) (kcf A2 A3 A4 (by decide +kernel) (by decide +kernel) (by decide +kernel)) (kcf A2 A3 A4 (by decide +kernel) (by decide +kernel) (by decide +kernel)) (kcf A2 A3 A4 (by decide +kernel) (by decide +kernel) (by decide +kernel)) (kcf A2 A3 A4 (by decide +kernel) (by decide +kernel) (by decide +kernel)) (kcf A2 A3 A4 (by decide +kernel) (by decide +kernel) (by decide +kernel)) (kcf A2 A3 A4 (by decide +kernel) (by decide +kernel) (by decide +kernel))
  obtain ⟨n0, n1, n2, n3, n4, n5, n6, n7, n8, n9⟩ := hc0
  refine ⟨P, Dn, lw, cl, id, gl, bo, pn, ri, lf, wa, fo, dn, ha, pa, bl, rd, rn, h4, ?_, ce_obj (kc 13 (by decide) (by decide)) n0, ce_lng (kc 14 (by decide) (by decide)) n1, ce_int (kc 15 (by decide) (by decide)) n2, ce_int (kc 16 (by decide) (by decide)) n3, ce_int (kc 17 (by decide) (by decide)) n4, ce_int (kc 18 (by decide) (by decide)) n5, ce_lng (kc 19 (by decide) (by decide)) n6, ce_int (kc 20 (by decide) (by decide)) n7, ce_int (kc 21 (by decide) (by decide)) n8, ce_int (kc 22 (by decide) (by decide)) n9, z1, z2, z3, z4, z5⟩
  refine FR_of rfl ?_
  refine rt_ild rfl rfl ?_
  refine RT_step rfl (fun _ _ => rfl) ?_
  refine RT_el (by decide) ?_
  refine rt_ild rfl rfl ?_
  refine rt_ald rfl rfl ?_
  refine rt_gf rfl (gf_lit (y := 12) e0 rfl) ?_
  refine rt_anP rfl an (by decide) ?_
  refine RT_step rfl (fun _ _ => rfl) ?_
  refine RT_el (by decide) ?_
  refine rt_ald rfl rfl ?_
  refine rt_gf rfl (gf_lit (y := 12) e0 rfl) ?_
  refine rt_ild rfl rfl ?_
  refine rt_aaP rfl ar ar0 (by decide) ?_
  refine rt_gf rfl (gf_of (n := 4) (G.1 132 gc132 rfl).1 hk) ?_
  refine RT_step rfl (fun _ _ => rfl) ?_
  refine RT_el (by decide) ?_
  refine rt_ald rfl rfl ?_
  refine rt_gf rfl (gf_lit (y := 12) e0 rfl) ?_
  refine rt_ild rfl rfl ?_
  refine rt_aaP rfl ar ar0 (by decide) ?_
  refine rt_ald rfl rfl ?_
  refine rt_gf rfl (gf_lit (y := 1) e0 rfl) ?_
  refine rt_ald rfl rfl ?_
  refine rt_gf rfl (gf_lit (y := 3) e0 rfl) ?_
  refine rt_ald rfl rfl ?_
  refine rt_gf rfl (gf_lit (y := 7) e0 rfl) ?_
  refine rt_ivP rfl rfl rfl oi rfl rfl hk2 ?_
  refine rt_ald rfl rfl ?_
  refine rt_gf rfl g05 ?_
  refine rt_ivP rfl rfl rfl op3 rfl rfl (f4.up (by decide)) ?_
  refine rt_ico rfl (show Int32.ofInt 1 = 1 from rfl) ?_
  exact rt_irt rfl rfl ⟨rfl, rfl⟩
theorem im1_3_110 {hp : List AE} (G : hp_ok GG hp) (hlen : Nat.ble 204 hp.length = true) (h0d : hq hp 0 1 = some (.ref 3)) (hse : hq hp 0 7 = some (.ref 110)) (hD : DH3 hp 182 0 187 0) : ∃ (P : Nat) (Dn : Nat) (lw : Int32) (cl : Int32) (id : Int32) (gl : Nat) (bo : Nat) (pn : List Int64) (ri : List Int32) (lf : List Int32) (wa : List Int32) (fo : List Int32) (dn : List Int64) (ha : List Int32) (pa : List Int32) (bl : List Int32) (rd : List Int32) (rn : List Int64), ∃ h9 : List AE, FR 3 25 [.ref 0, .int (Int32.ofNat 1)] hp (some (.int 1), h9) ∧ h9[157]? = some (dcl157 P Dn lw cl id gl bo) ∧ h9[158]? = some (lng pn) ∧ h9[159]? = some (ia ri) ∧ h9[160]? = some (ia lf) ∧ h9[161]? = some (ia wa) ∧ h9[162]? = some (ia fo) ∧ h9[163]? = some (lng dn) ∧ h9[164]? = some (ia ha) ∧ h9[165]? = some (ia pa) ∧ h9[166]? = some (ia bl) ∧ rd.length = 101 ∧ rn.length = 15 ∧ DF P Dn lw cl id gl bo pn ri lf wa fo dn ha pa bl rd rn ∧ (∀ j, j < 101 → hq hp 182 (0 + j) = (rd[j]?).map Value.int) ∧ (∀ j, j < 15 → hq hp 187 (0 + j) = (rn[j]?).map Value.long) := by
  obtain ⟨d, s, se, ss, lt, fb, tq, gb, e0, -, -, -, -⟩ := oc_0 G
  rw [hq_obj e0] at h0d hse
  have h0d : some (Value.ref d) = some (.ref 3) := h0d
  have hse : some (Value.ref se) = some (.ref 110) := hse
  obtain rfl := Value.ref.inj (Option.some.inj h0d)
  obtain rfl := Value.ref.inj (Option.some.inj hse)
  obtain ⟨P, Dn, lw, cl, id, gl, bo, pn, ri, lf, wa, fo, dn, ha, pa, bl, rd, rn, h0, h1, h2, h3, h4, h5, h6, h7, h8, h9, z1, z2, z3, z4, z5⟩ := hD
  obtain ⟨P2, Dn2, lw2, cl2, id2, gl2, bo2, eb, -, -⟩ := oc_157 G
  obtain ⟨pn2, -, m1, ca1⟩ := al_of (hp := hp) (a := 158) (t := 2) (n := 7) (G.1 158 gc158 rfl).1
  obtain ⟨ri2, -, m2, ca2⟩ := ai_of (hp := hp) (a := 159) (t := 1) (n := 7) (G.1 159 gc159 rfl).1
  obtain ⟨lf2, -, m3, ca3⟩ := ai_of (hp := hp) (a := 160) (t := 1) (n := 7) (G.1 160 gc160 rfl).1
  obtain ⟨wa2, -, m4, ca4⟩ := ai_of (hp := hp) (a := 161) (t := 1) (n := 7) (G.1 161 gc161 rfl).1
  obtain ⟨fo2, -, m5, ca5⟩ := ai_of (hp := hp) (a := 162) (t := 1) (n := 49) (G.1 162 gc162 rfl).1
  obtain ⟨dn2, -, m6, ca6⟩ := al_of (hp := hp) (a := 163) (t := 2) (n := 8) (G.1 163 gc163 rfl).1
  obtain ⟨ha2, -, m7, ca7⟩ := ai_of (hp := hp) (a := 164) (t := 1) (n := 8) (G.1 164 gc164 rfl).1
  obtain ⟨pa2, -, m8, ca8⟩ := ai_of (hp := hp) (a := 165) (t := 1) (n := 8) (G.1 165 gc165 rfl).1
  obtain ⟨bl2, -, m9, ca9⟩ := ai_of (hp := hp) (a := 166) (t := 1) (n := 8) (G.1 166 gc166 rfl).1
  have o1 : ov hp [(157, dcl157 P2 Dn2 lw2 cl2 id2 gl2 bo2), (158, lng pn2), (159, ia ri2), (160, ia lf2), (161, ia wa2), (162, ia fo2), (163, lng dn2), (164, ia ha2), (165, ia pa2), (166, ia bl2), (3, dcl3 P Dn lw cl id gl bo), (4, lng pn), (5, ia ri), (6, ia lf), (7, ia wa), (8, ia fo), (9, lng dn), (10, ia ha), (11, ia pa), (12, ia bl)] = hp := ov_id eb (ov_id ca1 (ov_id ca2 (ov_id ca3 (ov_id ca4 (ov_id ca5 (ov_id ca6 (ov_id ca7 (ov_id ca8 (ov_id ca9 (ov_id h0 (ov_id h1 (ov_id h2 (ov_id h3 (ov_id h4 (ov_id h5 (ov_id h6 (ov_id h7 (ov_id h8 (ov_c1 h9)))))))))))))))))))
  have hcp := x_copy157_3 (H := hp) hlen (P := P) (P2 := P2) (Dn := Dn) (Dn2 := Dn2) (lw := lw) (lw2 := lw2) (cl := cl) (cl2 := cl2) (id := id) (id2 := id2) (gl := gl) (gl2 := gl2) (bo := bo) (bo2 := bo2) z3.2.2.1 ⟨m1, m2, m3, m4, m5, m6, m7, m8, m9⟩
  rw [o1] at hcp
  obtain ⟨⟨w0, w⟩, fw, ew⟩ := co_run sypc_2210 (hp := hp) (ρ := [0]) (As := [.ref 157, .ref 3]) (en_full []) ⟨rfl, rfl, trivial⟩ (fun q hq => absurd hq List.not_mem_nil) G
  obtain ⟨-, q4⟩ := Prod.mk.inj (FR.det fw hcp)
  have G1 : hp_ok GG (ov hp [(157, dcl157 P Dn lw cl id gl bo), (158, lng pn), (159, ia ri), (160, ia lf), (161, ia wa), (162, ia fo), (163, lng dn), (164, ia ha), (165, ia pa), (166, ia bl), (3, dcl3 P Dn lw cl id gl bo), (4, lng pn), (5, ia ri), (6, ia lf), (7, ia wa), (8, ia fo), (9, lng dn), (10, ia ha), (11, ia pa), (12, ia bl)]) := q4 ▸ ew.2.1
  have A1 := ew.1
  rw [q4] at A1
  have hc0 : (ov hp [(157, dcl157 P Dn lw cl id gl bo), (158, lng pn), (159, ia ri), (160, ia lf), (161, ia wa), (162, ia fo), (163, lng dn), (164, ia ha), (165, ia pa), (166, ia bl), (3, dcl3 P Dn lw cl id gl bo), (4, lng pn), (5, ia ri), (6, ia lf), (7, ia wa), (8, ia fo), (9, lng dn), (10, ia ha), (11, ia pa), (12, ia bl)])[157]? = some (dcl157 P Dn lw cl id gl bo) ∧ (ov hp [(157, dcl157 P Dn lw cl id gl bo), (158, lng pn), (159, ia ri), (160, ia lf), (161, ia wa), (162, ia fo), (163, lng dn), (164, ia ha), (165, ia pa), (166, ia bl), (3, dcl3 P Dn lw cl id gl bo), (4, lng pn), (5, ia ri), (6, ia lf), (7, ia wa), (8, ia fo), (9, lng dn), (10, ia ha), (11, ia pa), (12, ia bl)])[158]? = some (lng pn) ∧ (ov hp [(157, dcl157 P Dn lw cl id gl bo), (158, lng pn), (159, ia ri), (160, ia lf), (161, ia wa), (162, ia fo), (163, lng dn), (164, ia ha), (165, ia pa), (166, ia bl), (3, dcl3 P Dn lw cl id gl bo), (4, lng pn), (5, ia ri), (6, ia lf), (7, ia wa), (8, ia fo), (9, lng dn), (10, ia ha), (11, ia pa), (12, ia bl)])[159]? = some (ia ri) ∧ (ov hp [(157, dcl157 P Dn lw cl id gl bo), (158, lng pn), (159, ia ri), (160, ia lf), (161, ia wa), (162, ia fo), (163, lng dn), (164, ia ha), (165, ia pa), (166, ia bl), (3, dcl3 P Dn lw cl id gl bo), (4, lng pn), (5, ia ri), (6, ia lf), (7, ia wa), (8, ia fo), (9, lng dn), (10, ia ha), (11, ia pa), (12, ia bl)])[160]? = some (ia lf) ∧ (ov hp [(157, dcl157 P Dn lw cl id gl bo), (158, lng pn), (159, ia ri), (160, ia lf), (161, ia wa), (162, ia fo), (163, lng dn), (164, ia ha), (165, ia pa), (166, ia bl), (3, dcl3 P Dn lw cl id gl bo), (4, lng pn), (5, ia ri), (6, ia lf), (7, ia wa), (8, ia fo), (9, lng dn), (10, ia ha), (11, ia pa), (12, ia bl)])[161]? = some (ia wa) ∧ (ov hp [(157, dcl157 P Dn lw cl id gl bo), (158, lng pn), (159, ia ri), (160, ia lf), (161, ia wa), (162, ia fo), (163, lng dn), (164, ia ha), (165, ia pa), (166, ia bl), (3, dcl3 P Dn lw cl id gl bo), (4, lng pn), (5, ia ri), (6, ia lf), (7, ia wa), (8, ia fo), (9, lng dn), (10, ia ha), (11, ia pa), (12, ia bl)])[162]? = some (ia fo) ∧ (ov hp [(157, dcl157 P Dn lw cl id gl bo), (158, lng pn), (159, ia ri), (160, ia lf), (161, ia wa), (162, ia fo), (163, lng dn), (164, ia ha), (165, ia pa), (166, ia bl), (3, dcl3 P Dn lw cl id gl bo), (4, lng pn), (5, ia ri), (6, ia lf), (7, ia wa), (8, ia fo), (9, lng dn), (10, ia ha), (11, ia pa), (12, ia bl)])[163]? = some (lng dn) ∧ (ov hp [(157, dcl157 P Dn lw cl id gl bo), (158, lng pn), (159, ia ri), (160, ia lf), (161, ia wa), (162, ia fo), (163, lng dn), (164, ia ha), (165, ia pa), (166, ia bl), (3, dcl3 P Dn lw cl id gl bo), (4, lng pn), (5, ia ri), (6, ia lf), (7, ia wa), (8, ia fo), (9, lng dn), (10, ia ha), (11, ia pa), (12, ia bl)])[164]? = some (ia ha) ∧ (ov hp [(157, dcl157 P Dn lw cl id gl bo), (158, lng pn), (159, ia ri), (160, ia lf), (161, ia wa), (162, ia fo), (163, lng dn), (164, ia ha), (165, ia pa), (166, ia bl), (3, dcl3 P Dn lw cl id gl bo), (4, lng pn), (5, ia ri), (6, ia lf), (7, ia wa), (8, ia fo), (9, lng dn), (10, ia ha), (11, ia pa), (12, ia bl)])[165]? = some (ia pa) ∧ (ov hp [(157, dcl157 P Dn lw cl id gl bo), (158, lng pn), (159, ia ri), (160, ia lf), (161, ia wa), (162, ia fo), (163, lng dn), (164, ia ha), (165, ia pa), (166, ia bl), (3, dcl3 P Dn lw cl id gl bo), (4, lng pn), (5, ia ri), (6, ia lf), (7, ia wa), (8, ia fo), (9, lng dn), (10, ia ha), (11, ia pa), (12, ia bl)])[166]? = some (ia bl) := ⟨ov_at rfl (ov_lt hlen (by decide)), ov_at rfl (ov_lt hlen (by decide)), ov_at rfl (ov_lt hlen (by decide)), ov_at rfl (ov_lt hlen (by decide)), ov_at rfl (ov_lt hlen (by decide)), ov_at rfl (ov_lt hlen (by decide)), ov_at rfl (ov_lt hlen (by decide)), ov_at rfl (ov_lt hlen (by decide)), ov_at rfl (ov_lt hlen (by decide)), ov_at rfl (ov_lt hlen (by decide))⟩
  generalize ov hp [(157, dcl157 P Dn lw cl id gl bo), (158, lng pn), (159, ia ri), (160, ia lf), (161, ia wa), (162, ia fo), (163, lng dn), (164, ia ha), (165, ia pa), (166, ia bl), (3, dcl3 P Dn lw cl id gl bo), (4, lng pn), (5, ia ri), (6, ia lf), (7, ia wa), (8, ia fo), (9, lng dn), (10, ia ha), (11, ia pa), (12, ia bl)] = h1 at hcp G1 A1 hc0
  obtain ⟨⟨h20, h2⟩, f2, x2⟩ := co_run sypc_2211 (hp := h1) (ρ := [0]) (As := [.ref 167, .ref 23]) (en_full []) ⟨rfl, rfl, trivial⟩ (fun q hq => absurd hq List.not_mem_nil) G1
  have q2 := co_no (C := sypt_2211) (by decide +kernel) x2
  have q2 : h20 = none := q2
  subst q2
  obtain ⟨⟨h30, h3⟩, f3, x3⟩ := co_run sypc_2212 (hp := h2) (ρ := [0]) (As := [.ref 175, .ref 110]) (en_full []) ⟨rfl, rfl, trivial⟩ (fun q hq => absurd hq List.not_mem_nil) x2.2.1
  have q3 := co_no (C := sypt_2212) (by decide +kernel) x3
  have q3 : h30 = none := q3
  subst q3
  have G2 := x2.2.1
  have G3 := x3.2.1
  have A2 := x2.1
  have A3 := x3.1
  obtain ⟨an, li, ar, ar0, ar1⟩ := im_arr G
  obtain ⟨fi, oi, -⟩ := ob_at G (a := 156) (ct := gc156) rfl rfl
  obtain ⟨fs, i1, i2⟩ := ob_at G3 (a := 156) (ct := gc156) rfl rfl
  obtain ⟨fb1, ob1, -⟩ := ob_at G (a := 157) (ct := gc157) rfl rfl
  obtain ⟨fb2, ob2, -⟩ := ob_at G1 (a := 167) (ct := gc167) rfl rfl
  obtain ⟨fb3, ob3, -⟩ := ob_at G2 (a := 175) (ct := gc175) rfl rfl
  have hk : FR 2 86 [.ref 156, .ref 3, .ref 23, .ref 110] hp (none, (h3.set 156 (.inr (2, fs.set 0 (.int 1))))) := by
    refine FR_of rfl ?_
    refine rt_ald rfl rfl ?_
    refine rt_gf rfl (gfo G (ct := gc156) (y := 1) (r := 157) rfl rfl (by decide) rfl) ?_
    refine rt_ald rfl rfl ?_
    refine rt_ivP rfl rfl rfl ob1 rfl rfl (hcp.up (by decide)) ?_
    refine rt_ald rfl rfl ?_
    refine rt_gf rfl (gfo G1 (ct := gc156) (y := 2) (r := 167) rfl rfl (by decide) rfl) ?_
    refine rt_ald rfl rfl ?_
    refine rt_ivP rfl rfl rfl ob2 rfl rfl (f2.up (by decide)) ?_
    refine rt_ald rfl rfl ?_
    refine rt_gf rfl (gfo G2 (ct := gc156) (y := 3) (r := 175) rfl rfl (by decide) rfl) ?_
    refine rt_ald rfl rfl ?_
    refine rt_ivP rfl rfl rfl ob3 rfl rfl (f3.up (by decide)) ?_
    refine rt_ald rfl rfl ?_
    refine rt_ico rfl (show Int32.ofInt 1 = 1 from rfl) ?_
    refine rt_put rfl i1 rfl (by omega) (by decide +kernel) ?_
    exact ow_ret rfl rfl rfl
  have u := upd_f (v := .int 1) i1 (show 0 < fs.length by omega)
  have kc : ∀ a, 157 ≤ a → a ≤ 166 → Ceq h1 (h3.set 156 (.inr (2, fs.set 0 (.int 1)))) a := cas10 (m := 157) (kce A2 A3 u (by decide +kernel) (by decide +kernel) (by decide)) (kce A2 A3 u (by decide +kernel) (by decide +kernel) (by decide)) (kce A2 A3 u (by decide +kernel) (by decide +kernel) (by decide)) (kce A2 A3 u (by decide +kernel) (by decide +kernel) (by decide)) (kce A2 A3 u (by decide +kernel) (by decide +kernel) (by decide)) (kce A2 A3 u (by decide +kernel) (by decide +kernel) (by decide)) (kce A2 A3 u (by decide +kernel) (by decide +kernel) (by decide)) (kce A2 A3 u (by decide +kernel) (by decide +kernel) (by decide)) (kce A2 A3 u (by decide +kernel) (by decide +kernel) (by decide)) (kce A2 A3 u (by decide +kernel) (by decide +kernel) (by decide))
  obtain ⟨n0, n1, n2, n3, n4, n5, n6, n7, n8, n9⟩ := hc0
  refine ⟨P, Dn, lw, cl, id, gl, bo, pn, ri, lf, wa, fo, dn, ha, pa, bl, rd, rn, (h3.set 156 (.inr (2, fs.set 0 (.int 1)))), ?_, ce_obj (kc 157 (by decide) (by decide)) n0, ce_lng (kc 158 (by decide) (by decide)) n1, ce_int (kc 159 (by decide) (by decide)) n2, ce_int (kc 160 (by decide) (by decide)) n3, ce_int (kc 161 (by decide) (by decide)) n4, ce_int (kc 162 (by decide) (by decide)) n5, ce_lng (kc 163 (by decide) (by decide)) n6, ce_int (kc 164 (by decide) (by decide)) n7, ce_int (kc 165 (by decide) (by decide)) n8, ce_int (kc 166 (by decide) (by decide)) n9, z1, z2, z3, z4, z5⟩
  refine FR_of rfl ?_
  refine rt_ild rfl rfl ?_
  refine RT_step rfl (fun _ _ => rfl) ?_
  refine RT_el (by decide) ?_
  refine rt_ild rfl rfl ?_
  refine rt_ald rfl rfl ?_
  refine rt_gf rfl (gf_lit (y := 12) e0 rfl) ?_
  refine rt_anP rfl an (by decide) ?_
  refine RT_step rfl (fun _ _ => rfl) ?_
  refine RT_if (by decide) ?_
  refine rt_ald rfl rfl ?_
  refine rt_gf rfl (gf_lit (y := 12) e0 rfl) ?_
  refine rt_ild rfl rfl ?_
  refine rt_aaP rfl ar ar1 (by decide) ?_
  refine rt_ald rfl rfl ?_
  refine rt_gf rfl (gf_lit (y := 1) e0 rfl) ?_
  refine rt_ald rfl rfl ?_
  refine rt_gf rfl (gf_lit (y := 3) e0 rfl) ?_
  refine rt_ald rfl rfl ?_
  refine rt_gf rfl (gf_lit (y := 7) e0 rfl) ?_
  refine rt_ivP rfl rfl rfl oi rfl rfl hk ?_
  refine rt_ico rfl (show Int32.ofInt 1 = 1 from rfl) ?_
  exact rt_irt rfl rfl ⟨rfl, rfl⟩
theorem re1_3_110 {hp : List AE} (G : hp_ok GG hp) (hlen : Nat.ble 204 hp.length = true) (h0d : hq hp 0 1 = some (.ref 3)) (hse : hq hp 0 7 = some (.ref 110)) (hk : hq hp 156 0 = some (.int 1)) (hD : DH157 hp 184 396 189 15) : ∃ (P : Nat) (Dn : Nat) (lw : Int32) (cl : Int32) (id : Int32) (gl : Nat) (bo : Nat) (pn : List Int64) (ri : List Int32) (lf : List Int32) (wa : List Int32) (fo : List Int32) (dn : List Int64) (ha : List Int32) (pa : List Int32) (bl : List Int32) (rd : List Int32) (rn : List Int64), ∃ h9 : List AE, FR 3 35 [.ref 0, .int (Int32.ofNat 1)] hp (some (.int 1), h9) ∧ h9[3]? = some (dcl3 P Dn lw cl id gl bo) ∧ h9[4]? = some (lng pn) ∧ h9[5]? = some (ia ri) ∧ h9[6]? = some (ia lf) ∧ h9[7]? = some (ia wa) ∧ h9[8]? = some (ia fo) ∧ h9[9]? = some (lng dn) ∧ h9[10]? = some (ia ha) ∧ h9[11]? = some (ia pa) ∧ h9[12]? = some (ia bl) ∧ rd.length = 101 ∧ rn.length = 15 ∧ DF P Dn lw cl id gl bo pn ri lf wa fo dn ha pa bl rd rn ∧ (∀ j, j < 101 → hq hp 184 (396 + j) = (rd[j]?).map Value.int) ∧ (∀ j, j < 15 → hq hp 189 (15 + j) = (rn[j]?).map Value.long) := by
  obtain ⟨d, s, se, ss, lt, fb, tq, gb, e0, -, -, -, -⟩ := oc_0 G
  rw [hq_obj e0] at h0d hse
  have h0d : some (Value.ref d) = some (.ref 3) := h0d
  have hse : some (Value.ref se) = some (.ref 110) := hse
  obtain rfl := Value.ref.inj (Option.some.inj h0d)
  obtain rfl := Value.ref.inj (Option.some.inj hse)
  obtain ⟨P, Dn, lw, cl, id, gl, bo, pn, ri, lf, wa, fo, dn, ha, pa, bl, rd, rn, h0, h1, h2, h3, h4, h5, h6, h7, h8, h9, z1, z2, z3, z4, z5⟩ := hD
  obtain ⟨P2, Dn2, lw2, cl2, id2, gl2, bo2, eb, -, -⟩ := oc_3 G
  obtain ⟨pn2, -, m1, ca1⟩ := al_of (hp := hp) (a := 4) (t := 2) (n := 7) (G.1 4 gc4 rfl).1
  obtain ⟨ri2, -, m2, ca2⟩ := ai_of (hp := hp) (a := 5) (t := 1) (n := 7) (G.1 5 gc5 rfl).1
  obtain ⟨lf2, -, m3, ca3⟩ := ai_of (hp := hp) (a := 6) (t := 1) (n := 7) (G.1 6 gc6 rfl).1
  obtain ⟨wa2, -, m4, ca4⟩ := ai_of (hp := hp) (a := 7) (t := 1) (n := 7) (G.1 7 gc7 rfl).1
  obtain ⟨fo2, -, m5, ca5⟩ := ai_of (hp := hp) (a := 8) (t := 1) (n := 49) (G.1 8 gc8 rfl).1
  obtain ⟨dn2, -, m6, ca6⟩ := al_of (hp := hp) (a := 9) (t := 2) (n := 8) (G.1 9 gc9 rfl).1
  obtain ⟨ha2, -, m7, ca7⟩ := ai_of (hp := hp) (a := 10) (t := 1) (n := 8) (G.1 10 gc10 rfl).1
  obtain ⟨pa2, -, m8, ca8⟩ := ai_of (hp := hp) (a := 11) (t := 1) (n := 8) (G.1 11 gc11 rfl).1
  obtain ⟨bl2, -, m9, ca9⟩ := ai_of (hp := hp) (a := 12) (t := 1) (n := 8) (G.1 12 gc12 rfl).1
  have o1 : ov hp [(3, dcl3 P2 Dn2 lw2 cl2 id2 gl2 bo2), (4, lng pn2), (5, ia ri2), (6, ia lf2), (7, ia wa2), (8, ia fo2), (9, lng dn2), (10, ia ha2), (11, ia pa2), (12, ia bl2), (157, dcl157 P Dn lw cl id gl bo), (158, lng pn), (159, ia ri), (160, ia lf), (161, ia wa), (162, ia fo), (163, lng dn), (164, ia ha), (165, ia pa), (166, ia bl)] = hp := ov_id eb (ov_id ca1 (ov_id ca2 (ov_id ca3 (ov_id ca4 (ov_id ca5 (ov_id ca6 (ov_id ca7 (ov_id ca8 (ov_id ca9 (ov_id h0 (ov_id h1 (ov_id h2 (ov_id h3 (ov_id h4 (ov_id h5 (ov_id h6 (ov_id h7 (ov_id h8 (ov_c1 h9)))))))))))))))))))
  have hcp := x_copy3_157 (H := hp) hlen (P := P) (P2 := P2) (Dn := Dn) (Dn2 := Dn2) (lw := lw) (lw2 := lw2) (cl := cl) (cl2 := cl2) (id := id) (id2 := id2) (gl := gl) (gl2 := gl2) (bo := bo) (bo2 := bo2) z3.2.2.1 ⟨m1, m2, m3, m4, m5, m6, m7, m8, m9⟩
  rw [o1] at hcp
  obtain ⟨⟨w0, w⟩, fw, ew⟩ := co_run sypc_2219 (hp := hp) (ρ := [0]) (As := [.ref 3, .ref 157]) (en_full []) ⟨rfl, rfl, trivial⟩ (fun q hq => absurd hq List.not_mem_nil) G
  obtain ⟨-, q4⟩ := Prod.mk.inj (FR.det fw hcp)
  have G1 : hp_ok GG (ov hp [(3, dcl3 P Dn lw cl id gl bo), (4, lng pn), (5, ia ri), (6, ia lf), (7, ia wa), (8, ia fo), (9, lng dn), (10, ia ha), (11, ia pa), (12, ia bl), (157, dcl157 P Dn lw cl id gl bo), (158, lng pn), (159, ia ri), (160, ia lf), (161, ia wa), (162, ia fo), (163, lng dn), (164, ia ha), (165, ia pa), (166, ia bl)]) := q4 ▸ ew.2.1
  have A1 := ew.1
  rw [q4] at A1
  have hc0 : (ov hp [(3, dcl3 P Dn lw cl id gl bo), (4, lng pn), (5, ia ri), (6, ia lf), (7, ia wa), (8, ia fo), (9, lng dn), (10, ia ha), (11, ia pa), (12, ia bl), (157, dcl157 P Dn lw cl id gl bo), (158, lng pn), (159, ia ri), (160, ia lf), (161, ia wa), (162, ia fo), (163, lng dn), (164, ia ha), (165, ia pa), (166, ia bl)])[3]? = some (dcl3 P Dn lw cl id gl bo) ∧ (ov hp [(3, dcl3 P Dn lw cl id gl bo), (4, lng pn), (5, ia ri), (6, ia lf), (7, ia wa), (8, ia fo), (9, lng dn), (10, ia ha), (11, ia pa), (12, ia bl), (157, dcl157 P Dn lw cl id gl bo), (158, lng pn), (159, ia ri), (160, ia lf), (161, ia wa), (162, ia fo), (163, lng dn), (164, ia ha), (165, ia pa), (166, ia bl)])[4]? = some (lng pn) ∧ (ov hp [(3, dcl3 P Dn lw cl id gl bo), (4, lng pn), (5, ia ri), (6, ia lf), (7, ia wa), (8, ia fo), (9, lng dn), (10, ia ha), (11, ia pa), (12, ia bl), (157, dcl157 P Dn lw cl id gl bo), (158, lng pn), (159, ia ri), (160, ia lf), (161, ia wa), (162, ia fo), (163, lng dn), (164, ia ha), (165, ia pa), (166, ia bl)])[5]? = some (ia ri) ∧ (ov hp [(3, dcl3 P Dn lw cl id gl bo), (4, lng pn), (5, ia ri), (6, ia lf), (7, ia wa), (8, ia fo), (9, lng dn), (10, ia ha), (11, ia pa), (12, ia bl), (157, dcl157 P Dn lw cl id gl bo), (158, lng pn), (159, ia ri), (160, ia lf), (161, ia wa), (162, ia fo), (163, lng dn), (164, ia ha), (165, ia pa), (166, ia bl)])[6]? = some (ia lf) ∧ (ov hp [(3, dcl3 P Dn lw cl id gl bo), (4, lng pn), (5, ia ri), (6, ia lf), (7, ia wa), (8, ia fo), (9, lng dn), (10, ia ha), (11, ia pa), (12, ia bl), (157, dcl157 P Dn lw cl id gl bo), (158, lng pn), (159, ia ri), (160, ia lf), (161, ia wa), (162, ia fo), (163, lng dn), (164, ia ha), (165, ia pa), (166, ia bl)])[7]? = some (ia wa) ∧ (ov hp [(3, dcl3 P Dn lw cl id gl bo), (4, lng pn), (5, ia ri), (6, ia lf), (7, ia wa), (8, ia fo), (9, lng dn), (10, ia ha), (11, ia pa), (12, ia bl), (157, dcl157 P Dn lw cl id gl bo), (158, lng pn), (159, ia ri), (160, ia lf), (161, ia wa), (162, ia fo), (163, lng dn), (164, ia ha), (165, ia pa), (166, ia bl)])[8]? = some (ia fo) ∧ (ov hp [(3, dcl3 P Dn lw cl id gl bo), (4, lng pn), (5, ia ri), (6, ia lf), (7, ia wa), (8, ia fo), (9, lng dn), (10, ia ha), (11, ia pa), (12, ia bl), (157, dcl157 P Dn lw cl id gl bo), (158, lng pn), (159, ia ri), (160, ia lf), (161, ia wa), (162, ia fo), (163, lng dn), (164, ia ha), (165, ia pa), (166, ia bl)])[9]? = some (lng dn) ∧ (ov hp [(3, dcl3 P Dn lw cl id gl bo), (4, lng pn), (5, ia ri), (6, ia lf), (7, ia wa), (8, ia fo), (9, lng dn), (10, ia ha), (11, ia pa), (12, ia bl), (157, dcl157 P Dn lw cl id gl bo), (158, lng pn), (159, ia ri), (160, ia lf), (161, ia wa), (162, ia fo), (163, lng dn), (164, ia ha), (165, ia pa), (166, ia bl)])[10]? = some (ia ha) ∧ (ov hp [(3, dcl3 P Dn lw cl id gl bo), (4, lng pn), (5, ia ri), (6, ia lf), (7, ia wa), (8, ia fo), (9, lng dn), (10, ia ha), (11, ia pa), (12, ia bl), (157, dcl157 P Dn lw cl id gl bo), (158, lng pn), (159, ia ri), (160, ia lf), (161, ia wa), (162, ia fo), (163, lng dn), (164, ia ha), (165, ia pa), (166, ia bl)])[11]? = some (ia pa) ∧ (ov hp [(3, dcl3 P Dn lw cl id gl bo), (4, lng pn), (5, ia ri), (6, ia lf), (7, ia wa), (8, ia fo), (9, lng dn), (10, ia ha), (11, ia pa), (12, ia bl), (157, dcl157 P Dn lw cl id gl bo), (158, lng pn), (159, ia ri), (160, ia lf), (161, ia wa), (162, ia fo), (163, lng dn), (164, ia ha), (165, ia pa), (166, ia bl)])[12]? = some (ia bl) := ⟨ov_at rfl (ov_lt hlen (by decide)), ov_at rfl (ov_lt hlen (by decide)), ov_at rfl (ov_lt hlen (by decide)), ov_at rfl (ov_lt hlen (by decide)), ov_at rfl (ov_lt hlen (by decide)), ov_at rfl (ov_lt hlen (by decide)), ov_at rfl (ov_lt hlen (by decide)), ov_at rfl (ov_lt hlen (by decide)), ov_at rfl (ov_lt hlen (by decide)), ov_at rfl (ov_lt hlen (by decide))⟩
  generalize ov hp [(3, dcl3 P Dn lw cl id gl bo), (4, lng pn), (5, ia ri), (6, ia lf), (7, ia wa), (8, ia fo), (9, lng dn), (10, ia ha), (11, ia pa), (12, ia bl), (157, dcl157 P Dn lw cl id gl bo), (158, lng pn), (159, ia ri), (160, ia lf), (161, ia wa), (162, ia fo), (163, lng dn), (164, ia ha), (165, ia pa), (166, ia bl)] = h1 at hcp G1 A1 hc0
  obtain ⟨⟨h20, h2⟩, f2, x2⟩ := co_run sypc_2220 (hp := h1) (ρ := [0]) (As := [.ref 23, .ref 167]) (en_full []) ⟨rfl, rfl, trivial⟩ (fun q hq => absurd hq List.not_mem_nil) G1
  have q2 := co_no (C := sypt_2220) (by decide +kernel) x2
  have q2 : h20 = none := q2
  subst q2
  obtain ⟨⟨h30, h3⟩, f3, x3⟩ := co_run sypc_2221 (hp := h2) (ρ := [0]) (As := [.ref 110, .ref 175]) (en_full []) ⟨rfl, rfl, trivial⟩ (fun q hq => absurd hq List.not_mem_nil) x2.2.1
  have q3 := co_no (C := sypt_2221) (by decide +kernel) x3
  have q3 : h30 = none := q3
  subst q3
  have G2 := x2.2.1
  have G3 := x3.2.1
  have A2 := x2.1
  have A3 := x3.1
  obtain ⟨an, li, ar, ar0, ar1⟩ := im_arr G
  obtain ⟨fi, oi, -⟩ := ob_at G (a := 156) (ct := gc156) rfl rfl
  obtain ⟨fb1, ob1, -⟩ := ob_at G (a := 3) (ct := gc3) rfl rfl
  obtain ⟨fb2, ob2, -⟩ := ob_at G1 (a := 23) (ct := gc23) rfl rfl
  obtain ⟨fb3, ob3, -⟩ := ob_at G2 (a := 110) (ct := gc110) rfl rfl
  obtain ⟨⟨h40, h4⟩, f4, x4⟩ := co_run sypc_49 (hp := h3) (ρ := [0]) (As := [.ref 39]) (en_full []) ⟨rfl, trivial⟩ (fun q hq => absurd hq List.not_mem_nil) G3
  have q5 := co_no (C := sypt_49) (by decide +kernel) x4
  have q5 : h40 = none := q5
  subst q5
  have A4 := x4.1
  have hk2 : FR 2 85 [.ref 156, .ref 3, .ref 23, .ref 110] hp (none, h3) := by
    refine FR_of rfl ?_
    refine rt_ald rfl rfl ?_
    refine rt_ald rfl rfl ?_
    refine rt_gf rfl (gfo G (ct := gc156) (y := 1) (r := 157) rfl rfl (by decide) rfl) ?_
    refine rt_ivP rfl rfl rfl ob1 rfl rfl (hcp.up (by decide)) ?_
    refine rt_ald rfl rfl ?_
    refine rt_ald rfl rfl ?_
    refine rt_gf rfl (gfo G1 (ct := gc156) (y := 2) (r := 167) rfl rfl (by decide) rfl) ?_
    refine rt_ivP rfl rfl rfl ob2 rfl rfl (f2.up (by decide)) ?_
    refine rt_ald rfl rfl ?_
    refine rt_ald rfl rfl ?_
    refine rt_gf rfl (gfo G2 (ct := gc156) (y := 3) (r := 175) rfl rfl (by decide) rfl) ?_
    refine rt_ivP rfl rfl rfl ob3 rfl rfl (f3.up (by decide)) ?_
    exact ow_ret rfl rfl rfl
  obtain ⟨fp3, op3, -⟩ := ob_at G3 (a := 39) (ct := gc39) rfl rfl
  have g05 : ev_gf h3 0 10 5 = some (.ref 39) := gfo G3 (ct := gc0) (y := 5) (r := 39) rfl rfl (by decide) rfl
  have kc : ∀ a, 3 ≤ a → a ≤ 12 → Ceq h1 h4 a := cas10 (m := 3) (kcf A2 A3 A4 (by decide +kernel) (by decide +kernel) (by decide +kernel)) (kcf A2 A3 A4 (by decide +kernel) (by decide +kernel) (by decide +kernel)) (kcf A2 A3 A4 (by decide +kernel) (by decide +kernel) (by decide +kernel)) (kcf A2 A3 A4 (by decide +kernel) (by decide +kernel) (by decide +kernel)) (kcf A2 A3 A4 (by decide +kernel) (by decide +kernel) (by decide +kernel)) (kcf A2 A3 A4 (by decide +kernel) (by decide +kernel) (by decide +kernel)) (kcf A2 A3 A4 (by decide +kernel) (by decide +kernel) (by decide +kernel)) (kcf A2 A3 A4 (by decide +kernel) (by decide +kernel) (by decide +kernel)) (kcf A2 A3 A4 (by decide +kernel) (by decide +kernel) (by decide +kernel)) (kcf A2 A3 A4 (by decide +kernel) (by decide +kernel) (by decide +kernel))
  obtain ⟨n0, n1, n2, n3, n4, n5, n6, n7, n8, n9⟩ := hc0
  refine ⟨P, Dn, lw, cl, id, gl, bo, pn, ri, lf, wa, fo, dn, ha, pa, bl, rd, rn, h4, ?_, ce_obj (kc 3 (by decide) (by decide)) n0, ce_lng (kc 4 (by decide) (by decide)) n1, ce_int (kc 5 (by decide) (by decide)) n2, ce_int (kc 6 (by decide) (by decide)) n3, ce_int (kc 7 (by decide) (by decide)) n4, ce_int (kc 8 (by decide) (by decide)) n5, ce_lng (kc 9 (by decide) (by decide)) n6, ce_int (kc 10 (by decide) (by decide)) n7, ce_int (kc 11 (by decide) (by decide)) n8, ce_int (kc 12 (by decide) (by decide)) n9, z1, z2, z3, z4, z5⟩
  refine FR_of rfl ?_
  refine rt_ild rfl rfl ?_
  refine RT_step rfl (fun _ _ => rfl) ?_
  refine RT_el (by decide) ?_
  refine rt_ild rfl rfl ?_
  refine rt_ald rfl rfl ?_
  refine rt_gf rfl (gf_lit (y := 12) e0 rfl) ?_
  refine rt_anP rfl an (by decide) ?_
  refine RT_step rfl (fun _ _ => rfl) ?_
  refine RT_el (by decide) ?_
  refine rt_ald rfl rfl ?_
  refine rt_gf rfl (gf_lit (y := 12) e0 rfl) ?_
  refine rt_ild rfl rfl ?_
  refine rt_aaP rfl ar ar1 (by decide) ?_
  refine rt_gf rfl (gf_of (n := 4) (G.1 156 gc156 rfl).1 hk) ?_
  refine RT_step rfl (fun _ _ => rfl) ?_
  refine RT_el (by decide) ?_
  refine rt_ald rfl rfl ?_
  refine rt_gf rfl (gf_lit (y := 12) e0 rfl) ?_
  refine rt_ild rfl rfl ?_
  refine rt_aaP rfl ar ar1 (by decide) ?_
  refine rt_ald rfl rfl ?_
  refine rt_gf rfl (gf_lit (y := 1) e0 rfl) ?_
  refine rt_ald rfl rfl ?_
  refine rt_gf rfl (gf_lit (y := 3) e0 rfl) ?_
  refine rt_ald rfl rfl ?_
  refine rt_gf rfl (gf_lit (y := 7) e0 rfl) ?_
  refine rt_ivP rfl rfl rfl oi rfl rfl hk2 ?_
  refine rt_ald rfl rfl ?_
  refine rt_gf rfl g05 ?_
  refine rt_ivP rfl rfl rfl op3 rfl rfl (f4.up (by decide)) ?_
  refine rt_ico rfl (show Int32.ofInt 1 = 1 from rfl) ?_
  exact rt_irt rfl rfl ⟨rfl, rfl⟩
theorem im1_3_115 {hp : List AE} (G : hp_ok GG hp) (hlen : Nat.ble 204 hp.length = true) (h0d : hq hp 0 1 = some (.ref 3)) (hse : hq hp 0 7 = some (.ref 115)) (hD : DH3 hp 182 0 187 0) : ∃ (P : Nat) (Dn : Nat) (lw : Int32) (cl : Int32) (id : Int32) (gl : Nat) (bo : Nat) (pn : List Int64) (ri : List Int32) (lf : List Int32) (wa : List Int32) (fo : List Int32) (dn : List Int64) (ha : List Int32) (pa : List Int32) (bl : List Int32) (rd : List Int32) (rn : List Int64), ∃ h9 : List AE, FR 3 25 [.ref 0, .int (Int32.ofNat 1)] hp (some (.int 1), h9) ∧ h9[157]? = some (dcl157 P Dn lw cl id gl bo) ∧ h9[158]? = some (lng pn) ∧ h9[159]? = some (ia ri) ∧ h9[160]? = some (ia lf) ∧ h9[161]? = some (ia wa) ∧ h9[162]? = some (ia fo) ∧ h9[163]? = some (lng dn) ∧ h9[164]? = some (ia ha) ∧ h9[165]? = some (ia pa) ∧ h9[166]? = some (ia bl) ∧ rd.length = 101 ∧ rn.length = 15 ∧ DF P Dn lw cl id gl bo pn ri lf wa fo dn ha pa bl rd rn ∧ (∀ j, j < 101 → hq hp 182 (0 + j) = (rd[j]?).map Value.int) ∧ (∀ j, j < 15 → hq hp 187 (0 + j) = (rn[j]?).map Value.long) := by
  obtain ⟨d, s, se, ss, lt, fb, tq, gb, e0, -, -, -, -⟩ := oc_0 G
  rw [hq_obj e0] at h0d hse
  have h0d : some (Value.ref d) = some (.ref 3) := h0d
  have hse : some (Value.ref se) = some (.ref 115) := hse
  obtain rfl := Value.ref.inj (Option.some.inj h0d)
  obtain rfl := Value.ref.inj (Option.some.inj hse)
  obtain ⟨P, Dn, lw, cl, id, gl, bo, pn, ri, lf, wa, fo, dn, ha, pa, bl, rd, rn, h0, h1, h2, h3, h4, h5, h6, h7, h8, h9, z1, z2, z3, z4, z5⟩ := hD
  obtain ⟨P2, Dn2, lw2, cl2, id2, gl2, bo2, eb, -, -⟩ := oc_157 G
  obtain ⟨pn2, -, m1, ca1⟩ := al_of (hp := hp) (a := 158) (t := 2) (n := 7) (G.1 158 gc158 rfl).1
  obtain ⟨ri2, -, m2, ca2⟩ := ai_of (hp := hp) (a := 159) (t := 1) (n := 7) (G.1 159 gc159 rfl).1
  obtain ⟨lf2, -, m3, ca3⟩ := ai_of (hp := hp) (a := 160) (t := 1) (n := 7) (G.1 160 gc160 rfl).1
  obtain ⟨wa2, -, m4, ca4⟩ := ai_of (hp := hp) (a := 161) (t := 1) (n := 7) (G.1 161 gc161 rfl).1
  obtain ⟨fo2, -, m5, ca5⟩ := ai_of (hp := hp) (a := 162) (t := 1) (n := 49) (G.1 162 gc162 rfl).1
  obtain ⟨dn2, -, m6, ca6⟩ := al_of (hp := hp) (a := 163) (t := 2) (n := 8) (G.1 163 gc163 rfl).1
  obtain ⟨ha2, -, m7, ca7⟩ := ai_of (hp := hp) (a := 164) (t := 1) (n := 8) (G.1 164 gc164 rfl).1
  obtain ⟨pa2, -, m8, ca8⟩ := ai_of (hp := hp) (a := 165) (t := 1) (n := 8) (G.1 165 gc165 rfl).1
  obtain ⟨bl2, -, m9, ca9⟩ := ai_of (hp := hp) (a := 166) (t := 1) (n := 8) (G.1 166 gc166 rfl).1
  have o1 : ov hp [(157, dcl157 P2 Dn2 lw2 cl2 id2 gl2 bo2), (158, lng pn2), (159, ia ri2), (160, ia lf2), (161, ia wa2), (162, ia fo2), (163, lng dn2), (164, ia ha2), (165, ia pa2), (166, ia bl2), (3, dcl3 P Dn lw cl id gl bo), (4, lng pn), (5, ia ri), (6, ia lf), (7, ia wa), (8, ia fo), (9, lng dn), (10, ia ha), (11, ia pa), (12, ia bl)] = hp := ov_id eb (ov_id ca1 (ov_id ca2 (ov_id ca3 (ov_id ca4 (ov_id ca5 (ov_id ca6 (ov_id ca7 (ov_id ca8 (ov_id ca9 (ov_id h0 (ov_id h1 (ov_id h2 (ov_id h3 (ov_id h4 (ov_id h5 (ov_id h6 (ov_id h7 (ov_id h8 (ov_c1 h9)))))))))))))))))))
  have hcp := x_copy157_3 (H := hp) hlen (P := P) (P2 := P2) (Dn := Dn) (Dn2 := Dn2) (lw := lw) (lw2 := lw2) (cl := cl) (cl2 := cl2) (id := id) (id2 := id2) (gl := gl) (gl2 := gl2) (bo := bo) (bo2 := bo2) z3.2.2.1 ⟨m1, m2, m3, m4, m5, m6, m7, m8, m9⟩
  rw [o1] at hcp
  obtain ⟨⟨w0, w⟩, fw, ew⟩ := co_run sypc_2210 (hp := hp) (ρ := [0]) (As := [.ref 157, .ref 3]) (en_full []) ⟨rfl, rfl, trivial⟩ (fun q hq => absurd hq List.not_mem_nil) G
  obtain ⟨-, q4⟩ := Prod.mk.inj (FR.det fw hcp)
  have G1 : hp_ok GG (ov hp [(157, dcl157 P Dn lw cl id gl bo), (158, lng pn), (159, ia ri), (160, ia lf), (161, ia wa), (162, ia fo), (163, lng dn), (164, ia ha), (165, ia pa), (166, ia bl), (3, dcl3 P Dn lw cl id gl bo), (4, lng pn), (5, ia ri), (6, ia lf), (7, ia wa), (8, ia fo), (9, lng dn), (10, ia ha), (11, ia pa), (12, ia bl)]) := q4 ▸ ew.2.1
  have A1 := ew.1
  rw [q4] at A1
  have hc0 : (ov hp [(157, dcl157 P Dn lw cl id gl bo), (158, lng pn), (159, ia ri), (160, ia lf), (161, ia wa), (162, ia fo), (163, lng dn), (164, ia ha), (165, ia pa), (166, ia bl), (3, dcl3 P Dn lw cl id gl bo), (4, lng pn), (5, ia ri), (6, ia lf), (7, ia wa), (8, ia fo), (9, lng dn), (10, ia ha), (11, ia pa), (12, ia bl)])[157]? = some (dcl157 P Dn lw cl id gl bo) ∧ (ov hp [(157, dcl157 P Dn lw cl id gl bo), (158, lng pn), (159, ia ri), (160, ia lf), (161, ia wa), (162, ia fo), (163, lng dn), (164, ia ha), (165, ia pa), (166, ia bl), (3, dcl3 P Dn lw cl id gl bo), (4, lng pn), (5, ia ri), (6, ia lf), (7, ia wa), (8, ia fo), (9, lng dn), (10, ia ha), (11, ia pa), (12, ia bl)])[158]? = some (lng pn) ∧ (ov hp [(157, dcl157 P Dn lw cl id gl bo), (158, lng pn), (159, ia ri), (160, ia lf), (161, ia wa), (162, ia fo), (163, lng dn), (164, ia ha), (165, ia pa), (166, ia bl), (3, dcl3 P Dn lw cl id gl bo), (4, lng pn), (5, ia ri), (6, ia lf), (7, ia wa), (8, ia fo), (9, lng dn), (10, ia ha), (11, ia pa), (12, ia bl)])[159]? = some (ia ri) ∧ (ov hp [(157, dcl157 P Dn lw cl id gl bo), (158, lng pn), (159, ia ri), (160, ia lf), (161, ia wa), (162, ia fo), (163, lng dn), (164, ia ha), (165, ia pa), (166, ia bl), (3, dcl3 P Dn lw cl id gl bo), (4, lng pn), (5, ia ri), (6, ia lf), (7, ia wa), (8, ia fo), (9, lng dn), (10, ia ha), (11, ia pa), (12, ia bl)])[160]? = some (ia lf) ∧ (ov hp [(157, dcl157 P Dn lw cl id gl bo), (158, lng pn), (159, ia ri), (160, ia lf), (161, ia wa), (162, ia fo), (163, lng dn), (164, ia ha), (165, ia pa), (166, ia bl), (3, dcl3 P Dn lw cl id gl bo), (4, lng pn), (5, ia ri), (6, ia lf), (7, ia wa), (8, ia fo), (9, lng dn), (10, ia ha), (11, ia pa), (12, ia bl)])[161]? = some (ia wa) ∧ (ov hp [(157, dcl157 P Dn lw cl id gl bo), (158, lng pn), (159, ia ri), (160, ia lf), (161, ia wa), (162, ia fo), (163, lng dn), (164, ia ha), (165, ia pa), (166, ia bl), (3, dcl3 P Dn lw cl id gl bo), (4, lng pn), (5, ia ri), (6, ia lf), (7, ia wa), (8, ia fo), (9, lng dn), (10, ia ha), (11, ia pa), (12, ia bl)])[162]? = some (ia fo) ∧ (ov hp [(157, dcl157 P Dn lw cl id gl bo), (158, lng pn), (159, ia ri), (160, ia lf), (161, ia wa), (162, ia fo), (163, lng dn), (164, ia ha), (165, ia pa), (166, ia bl), (3, dcl3 P Dn lw cl id gl bo), (4, lng pn), (5, ia ri), (6, ia lf), (7, ia wa), (8, ia fo), (9, lng dn), (10, ia ha), (11, ia pa), (12, ia bl)])[163]? = some (lng dn) ∧ (ov hp [(157, dcl157 P Dn lw cl id gl bo), (158, lng pn), (159, ia ri), (160, ia lf), (161, ia wa), (162, ia fo), (163, lng dn), (164, ia ha), (165, ia pa), (166, ia bl), (3, dcl3 P Dn lw cl id gl bo), (4, lng pn), (5, ia ri), (6, ia lf), (7, ia wa), (8, ia fo), (9, lng dn), (10, ia ha), (11, ia pa), (12, ia bl)])[164]? = some (ia ha) ∧ (ov hp [(157, dcl157 P Dn lw cl id gl bo), (158, lng pn), (159, ia ri), (160, ia lf), (161, ia wa), (162, ia fo), (163, lng dn), (164, ia ha), (165, ia pa), (166, ia bl), (3, dcl3 P Dn lw cl id gl bo), (4, lng pn), (5, ia ri), (6, ia lf), (7, ia wa), (8, ia fo), (9, lng dn), (10, ia ha), (11, ia pa), (12, ia bl)])[165]? = some (ia pa) ∧ (ov hp [(157, dcl157 P Dn lw cl id gl bo), (158, lng pn), (159, ia ri), (160, ia lf), (161, ia wa), (162, ia fo), (163, lng dn), (164, ia ha), (165, ia pa), (166, ia bl), (3, dcl3 P Dn lw cl id gl bo), (4, lng pn), (5, ia ri), (6, ia lf), (7, ia wa), (8, ia fo), (9, lng dn), (10, ia ha), (11, ia pa), (12, ia bl)])[166]? = some (ia bl) := ⟨ov_at rfl (ov_lt hlen (by decide)), ov_at rfl (ov_lt hlen (by decide)), ov_at rfl (ov_lt hlen (by decide)), ov_at rfl (ov_lt hlen (by decide)), ov_at rfl (ov_lt hlen (by decide)), ov_at rfl (ov_lt hlen (by decide)), ov_at rfl (ov_lt hlen (by decide)), ov_at rfl (ov_lt hlen (by decide)), ov_at rfl (ov_lt hlen (by decide)), ov_at rfl (ov_lt hlen (by decide))⟩
  generalize ov hp [(157, dcl157 P Dn lw cl id gl bo), (158, lng pn), (159, ia ri), (160, ia lf), (161, ia wa), (162, ia fo), (163, lng dn), (164, ia ha), (165, ia pa), (166, ia bl), (3, dcl3 P Dn lw cl id gl bo), (4, lng pn), (5, ia ri), (6, ia lf), (7, ia wa), (8, ia fo), (9, lng dn), (10, ia ha), (11, ia pa), (12, ia bl)] = h1 at hcp G1 A1 hc0
  obtain ⟨⟨h20, h2⟩, f2, x2⟩ := co_run sypc_2211 (hp := h1) (ρ := [0]) (As := [.ref 167, .ref 23]) (en_full []) ⟨rfl, rfl, trivial⟩ (fun q hq => absurd hq List.not_mem_nil) G1
  have q2 := co_no (C := sypt_2211) (by decide +kernel) x2
  have q2 : h20 = none := q2
  subst q2
  obtain ⟨⟨h30, h3⟩, f3, x3⟩ := co_run sypc_2516 (hp := h2) (ρ := [0]) (As := [.ref 175, .ref 115]) (en_full []) ⟨rfl, rfl, trivial⟩ (fun q hq => absurd hq List.not_mem_nil) x2.2.1
  have q3 := co_no (C := sypt_2516) (by decide +kernel) x3
  have q3 : h30 = none := q3
  subst q3
  have G2 := x2.2.1
  have G3 := x3.2.1
  have A2 := x2.1
  have A3 := x3.1
  obtain ⟨an, li, ar, ar0, ar1⟩ := im_arr G
  obtain ⟨fi, oi, -⟩ := ob_at G (a := 156) (ct := gc156) rfl rfl
  obtain ⟨fs, i1, i2⟩ := ob_at G3 (a := 156) (ct := gc156) rfl rfl
  obtain ⟨fb1, ob1, -⟩ := ob_at G (a := 157) (ct := gc157) rfl rfl
  obtain ⟨fb2, ob2, -⟩ := ob_at G1 (a := 167) (ct := gc167) rfl rfl
  obtain ⟨fb3, ob3, -⟩ := ob_at G2 (a := 175) (ct := gc175) rfl rfl
  have hk : FR 2 86 [.ref 156, .ref 3, .ref 23, .ref 115] hp (none, (h3.set 156 (.inr (2, fs.set 0 (.int 1))))) := by
    refine FR_of rfl ?_
    refine rt_ald rfl rfl ?_
    refine rt_gf rfl (gfo G (ct := gc156) (y := 1) (r := 157) rfl rfl (by decide) rfl) ?_
    refine rt_ald rfl rfl ?_
    refine rt_ivP rfl rfl rfl ob1 rfl rfl (hcp.up (by decide)) ?_
    refine rt_ald rfl rfl ?_
    refine rt_gf rfl (gfo G1 (ct := gc156) (y := 2) (r := 167) rfl rfl (by decide) rfl) ?_
    refine rt_ald rfl rfl ?_
    refine rt_ivP rfl rfl rfl ob2 rfl rfl (f2.up (by decide)) ?_
    refine rt_ald rfl rfl ?_
    refine rt_gf rfl (gfo G2 (ct := gc156) (y := 3) (r := 175) rfl rfl (by decide) rfl) ?_
    refine rt_ald rfl rfl ?_
    refine rt_ivP rfl rfl rfl ob3 rfl rfl (f3.up (by decide)) ?_
    refine rt_ald rfl rfl ?_
    refine rt_ico rfl (show Int32.ofInt 1 = 1 from rfl) ?_
    refine rt_put rfl i1 rfl (by omega) (by decide +kernel) ?_
    exact ow_ret rfl rfl rfl
  have u := upd_f (v := .int 1) i1 (show 0 < fs.length by omega)
  have kc : ∀ a, 157 ≤ a → a ≤ 166 → Ceq h1 (h3.set 156 (.inr (2, fs.set 0 (.int 1)))) a := cas10 (m := 157) (kce A2 A3 u (by decide +kernel) (by decide +kernel) (by decide)) (kce A2 A3 u (by decide +kernel) (by decide +kernel) (by decide)) (kce A2 A3 u (by decide +kernel) (by decide +kernel) (by decide)) (kce A2 A3 u (by decide +kernel) (by decide +kernel) (by decide)) (kce A2 A3 u (by decide +kernel) (by decide +kernel) (by decide)) (kce A2 A3 u (by decide +kernel) (by decide +kernel) (by decide)) (kce A2 A3 u (by decide +kernel) (by decide +kernel) (by decide)) (kce A2 A3 u (by decide +kernel) (by decide +kernel) (by decide)) (kce A2 A3 u (by decide +kernel) (by decide +kernel) (by decide)) (kce A2 A3 u (by decide +kernel) (by decide +kernel) (by decide))
  obtain ⟨n0, n1, n2, n3, n4, n5, n6, n7, n8, n9⟩ := hc0
  refine ⟨P, Dn, lw, cl, id, gl, bo, pn, ri, lf, wa, fo, dn, ha, pa, bl, rd, rn, (h3.set 156 (.inr (2, fs.set 0 (.int 1)))), ?_, ce_obj (kc 157 (by decide) (by decide)) n0, ce_lng (kc 158 (by decide) (by decide)) n1, ce_int (kc 159 (by decide) (by decide)) n2, ce_int (kc 160 (by decide) (by decide)) n3, ce_int (kc 161 (by decide) (by decide)) n4, ce_int (kc 162 (by decide) (by decide)) n5, ce_lng (kc 163 (by decide) (by decide)) n6, ce_int (kc 164 (by decide) (by decide)) n7, ce_int (kc 165 (by decide) (by decide)) n8, ce_int (kc 166 (by decide) (by decide)) n9, z1, z2, z3, z4, z5⟩
  refine FR_of rfl ?_
  refine rt_ild rfl rfl ?_
  refine RT_step rfl (fun _ _ => rfl) ?_
  refine RT_el (by decide) ?_
  refine rt_ild rfl rfl ?_
  refine rt_ald rfl rfl ?_
  refine rt_gf rfl (gf_lit (y := 12) e0 rfl) ?_
  refine rt_anP rfl an (by decide) ?_
  refine RT_step rfl (fun _ _ => rfl) ?_
  refine RT_if (by decide) ?_
  refine rt_ald rfl rfl ?_
  refine rt_gf rfl (gf_lit (y := 12) e0 rfl) ?_
  refine rt_ild rfl rfl ?_
  refine rt_aaP rfl ar ar1 (by decide) ?_
  refine rt_ald rfl rfl ?_
  refine rt_gf rfl (gf_lit (y := 1) e0 rfl) ?_
  refine rt_ald rfl rfl ?_
  refine rt_gf rfl (gf_lit (y := 3) e0 rfl) ?_
  refine rt_ald rfl rfl ?_
  refine rt_gf rfl (gf_lit (y := 7) e0 rfl) ?_
  refine rt_ivP rfl rfl rfl oi rfl rfl hk ?_
  refine rt_ico rfl (show Int32.ofInt 1 = 1 from rfl) ?_
  exact rt_irt rfl rfl ⟨rfl, rfl⟩
theorem re1_3_115 {hp : List AE} (G : hp_ok GG hp) (hlen : Nat.ble 204 hp.length = true) (h0d : hq hp 0 1 = some (.ref 3)) (hse : hq hp 0 7 = some (.ref 115)) (hk : hq hp 156 0 = some (.int 1)) (hD : DH157 hp 184 396 189 15) : ∃ (P : Nat) (Dn : Nat) (lw : Int32) (cl : Int32) (id : Int32) (gl : Nat) (bo : Nat) (pn : List Int64) (ri : List Int32) (lf : List Int32) (wa : List Int32) (fo : List Int32) (dn : List Int64) (ha : List Int32) (pa : List Int32) (bl : List Int32) (rd : List Int32) (rn : List Int64), ∃ h9 : List AE, FR 3 35 [.ref 0, .int (Int32.ofNat 1)] hp (some (.int 1), h9) ∧ h9[3]? = some (dcl3 P Dn lw cl id gl bo) ∧ h9[4]? = some (lng pn) ∧ h9[5]? = some (ia ri) ∧ h9[6]? = some (ia lf) ∧ h9[7]? = some (ia wa) ∧ h9[8]? = some (ia fo) ∧ h9[9]? = some (lng dn) ∧ h9[10]? = some (ia ha) ∧ h9[11]? = some (ia pa) ∧ h9[12]? = some (ia bl) ∧ rd.length = 101 ∧ rn.length = 15 ∧ DF P Dn lw cl id gl bo pn ri lf wa fo dn ha pa bl rd rn ∧ (∀ j, j < 101 → hq hp 184 (396 + j) = (rd[j]?).map Value.int) ∧ (∀ j, j < 15 → hq hp 189 (15 + j) = (rn[j]?).map Value.long) := by
  obtain ⟨d, s, se, ss, lt, fb, tq, gb, e0, -, -, -, -⟩ := oc_0 G
  rw [hq_obj e0] at h0d hse
  have h0d : some (Value.ref d) = some (.ref 3) := h0d
  have hse : some (Value.ref se) = some (.ref 115) := hse
  obtain rfl := Value.ref.inj (Option.some.inj h0d)
  obtain rfl := Value.ref.inj (Option.some.inj hse)
  obtain ⟨P, Dn, lw, cl, id, gl, bo, pn, ri, lf, wa, fo, dn, ha, pa, bl, rd, rn, h0, h1, h2, h3, h4, h5, h6, h7, h8, h9, z1, z2, z3, z4, z5⟩ := hD
  obtain ⟨P2, Dn2, lw2, cl2, id2, gl2, bo2, eb, -, -⟩ := oc_3 G
  obtain ⟨pn2, -, m1, ca1⟩ := al_of (hp := hp) (a := 4) (t := 2) (n := 7) (G.1 4 gc4 rfl).1
  obtain ⟨ri2, -, m2, ca2⟩ := ai_of (hp := hp) (a := 5) (t := 1) (n := 7) (G.1 5 gc5 rfl).1
  obtain ⟨lf2, -, m3, ca3⟩ := ai_of (hp := hp) (a := 6) (t := 1) (n := 7) (G.1 6 gc6 rfl).1
  obtain ⟨wa2, -, m4, ca4⟩ := ai_of (hp := hp) (a := 7) (t := 1) (n := 7) (G.1 7 gc7 rfl).1
  obtain ⟨fo2, -, m5, ca5⟩ := ai_of (hp := hp) (a := 8) (t := 1) (n := 49) (G.1 8 gc8 rfl).1
  obtain ⟨dn2, -, m6, ca6⟩ := al_of (hp := hp) (a := 9) (t := 2) (n := 8) (G.1 9 gc9 rfl).1
  obtain ⟨ha2, -, m7, ca7⟩ := ai_of (hp := hp) (a := 10) (t := 1) (n := 8) (G.1 10 gc10 rfl).1
  obtain ⟨pa2, -, m8, ca8⟩ := ai_of (hp := hp) (a := 11) (t := 1) (n := 8) (G.1 11 gc11 rfl).1
  obtain ⟨bl2, -, m9, ca9⟩ := ai_of (hp := hp) (a := 12) (t := 1) (n := 8) (G.1 12 gc12 rfl).1
  have o1 : ov hp [(3, dcl3 P2 Dn2 lw2 cl2 id2 gl2 bo2), (4, lng pn2), (5, ia ri2), (6, ia lf2), (7, ia wa2), (8, ia fo2), (9, lng dn2), (10, ia ha2), (11, ia pa2), (12, ia bl2), (157, dcl157 P Dn lw cl id gl bo), (158, lng pn), (159, ia ri), (160, ia lf), (161, ia wa), (162, ia fo), (163, lng dn), (164, ia ha), (165, ia pa), (166, ia bl)] = hp := ov_id eb (ov_id ca1 (ov_id ca2 (ov_id ca3 (ov_id ca4 (ov_id ca5 (ov_id ca6 (ov_id ca7 (ov_id ca8 (ov_id ca9 (ov_id h0 (ov_id h1 (ov_id h2 (ov_id h3 (ov_id h4 (ov_id h5 (ov_id h6 (ov_id h7 (ov_id h8 (ov_c1 h9)))))))))))))))))))
  have hcp := x_copy3_157 (H := hp) hlen (P := P) (P2 := P2) (Dn := Dn) (Dn2 := Dn2) (lw := lw) (lw2 := lw2) (cl := cl) (cl2 := cl2) (id := id) (id2 := id2) (gl := gl) (gl2 := gl2) (bo := bo) (bo2 := bo2) z3.2.2.1 ⟨m1, m2, m3, m4, m5, m6, m7, m8, m9⟩
  rw [o1] at hcp
  obtain ⟨⟨w0, w⟩, fw, ew⟩ := co_run sypc_2219 (hp := hp) (ρ := [0]) (As := [.ref 3, .ref 157]) (en_full []) ⟨rfl, rfl, trivial⟩ (fun q hq => absurd hq List.not_mem_nil) G
  obtain ⟨-, q4⟩ := Prod.mk.inj (FR.det fw hcp)
  have G1 : hp_ok GG (ov hp [(3, dcl3 P Dn lw cl id gl bo), (4, lng pn), (5, ia ri), (6, ia lf), (7, ia wa), (8, ia fo), (9, lng dn), (10, ia ha), (11, ia pa), (12, ia bl), (157, dcl157 P Dn lw cl id gl bo), (158, lng pn), (159, ia ri), (160, ia lf), (161, ia wa), (162, ia fo), (163, lng dn), (164, ia ha), (165, ia pa), (166, ia bl)]) := q4 ▸ ew.2.1
  have A1 := ew.1
  rw [q4] at A1
  have hc0 : (ov hp [(3, dcl3 P Dn lw cl id gl bo), (4, lng pn), (5, ia ri), (6, ia lf), (7, ia wa), (8, ia fo), (9, lng dn), (10, ia ha), (11, ia pa), (12, ia bl), (157, dcl157 P Dn lw cl id gl bo), (158, lng pn), (159, ia ri), (160, ia lf), (161, ia wa), (162, ia fo), (163, lng dn), (164, ia ha), (165, ia pa), (166, ia bl)])[3]? = some (dcl3 P Dn lw cl id gl bo) ∧ (ov hp [(3, dcl3 P Dn lw cl id gl bo), (4, lng pn), (5, ia ri), (6, ia lf), (7, ia wa), (8, ia fo), (9, lng dn), (10, ia ha), (11, ia pa), (12, ia bl), (157, dcl157 P Dn lw cl id gl bo), (158, lng pn), (159, ia ri), (160, ia lf), (161, ia wa), (162, ia fo), (163, lng dn), (164, ia ha), (165, ia pa), (166, ia bl)])[4]? = some (lng pn) ∧ (ov hp [(3, dcl3 P Dn lw cl id gl bo), (4, lng pn), (5, ia ri), (6, ia lf), (7, ia wa), (8, ia fo), (9, lng dn), (10, ia ha), (11, ia pa), (12, ia bl), (157, dcl157 P Dn lw cl id gl bo), (158, lng pn), (159, ia ri), (160, ia lf), (161, ia wa), (162, ia fo), (163, lng dn), (164, ia ha), (165, ia pa), (166, ia bl)])[5]? = some (ia ri) ∧ (ov hp [(3, dcl3 P Dn lw cl id gl bo), (4, lng pn), (5, ia ri), (6, ia lf), (7, ia wa), (8, ia fo), (9, lng dn), (10, ia ha), (11, ia pa), (12, ia bl), (157, dcl157 P Dn lw cl id gl bo), (158, lng pn), (159, ia ri), (160, ia lf), (161, ia wa), (162, ia fo), (163, lng dn), (164, ia ha), (165, ia pa), (166, ia bl)])[6]? = some (ia lf) ∧ (ov hp [(3, dcl3 P Dn lw cl id gl bo), (4, lng pn), (5, ia ri), (6, ia lf), (7, ia wa), (8, ia fo), (9, lng dn), (10, ia ha), (11, ia pa), (12, ia bl), (157, dcl157 P Dn lw cl id gl bo), (158, lng pn), (159, ia ri), (160, ia lf), (161, ia wa), (162, ia fo), (163, lng dn), (164, ia ha), (165, ia pa), (166, ia bl)])[7]? = some (ia wa) ∧ (ov hp [(3, dcl3 P Dn lw cl id gl bo), (4, lng pn), (5, ia ri), (6, ia lf), (7, ia wa), (8, ia fo), (9, lng dn), (10, ia ha), (11, ia pa), (12, ia bl), (157, dcl157 P Dn lw cl id gl bo), (158, lng pn), (159, ia ri), (160, ia lf), (161, ia wa), (162, ia fo), (163, lng dn), (164, ia ha), (165, ia pa), (166, ia bl)])[8]? = some (ia fo) ∧ (ov hp [(3, dcl3 P Dn lw cl id gl bo), (4, lng pn), (5, ia ri), (6, ia lf), (7, ia wa), (8, ia fo), (9, lng dn), (10, ia ha), (11, ia pa), (12, ia bl), (157, dcl157 P Dn lw cl id gl bo), (158, lng pn), (159, ia ri), (160, ia lf), (161, ia wa), (162, ia fo), (163, lng dn), (164, ia ha), (165, ia pa), (166, ia bl)])[9]? = some (lng dn) ∧ (ov hp [(3, dcl3 P Dn lw cl id gl bo), (4, lng pn), (5, ia ri), (6, ia lf), (7, ia wa), (8, ia fo), (9, lng dn), (10, ia ha), (11, ia pa), (12, ia bl), (157, dcl157 P Dn lw cl id gl bo), (158, lng pn), (159, ia ri), (160, ia lf), (161, ia wa), (162, ia fo), (163, lng dn), (164, ia ha), (165, ia pa), (166, ia bl)])[10]? = some (ia ha) ∧ (ov hp [(3, dcl3 P Dn lw cl id gl bo), (4, lng pn), (5, ia ri), (6, ia lf), (7, ia wa), (8, ia fo), (9, lng dn), (10, ia ha), (11, ia pa), (12, ia bl), (157, dcl157 P Dn lw cl id gl bo), (158, lng pn), (159, ia ri), (160, ia lf), (161, ia wa), (162, ia fo), (163, lng dn), (164, ia ha), (165, ia pa), (166, ia bl)])[11]? = some (ia pa) ∧ (ov hp [(3, dcl3 P Dn lw cl id gl bo), (4, lng pn), (5, ia ri), (6, ia lf), (7, ia wa), (8, ia fo), (9, lng dn), (10, ia ha), (11, ia pa), (12, ia bl), (157, dcl157 P Dn lw cl id gl bo), (158, lng pn), (159, ia ri), (160, ia lf), (161, ia wa), (162, ia fo), (163, lng dn), (164, ia ha), (165, ia pa), (166, ia bl)])[12]? = some (ia bl) := ⟨ov_at rfl (ov_lt hlen (by decide)), ov_at rfl (ov_lt hlen (by decide)), ov_at rfl (ov_lt hlen (by decide)), ov_at rfl (ov_lt hlen (by decide)), ov_at rfl (ov_lt hlen (by decide)), ov_at rfl (ov_lt hlen (by decide)), ov_at rfl (ov_lt hlen (by decide)), ov_at rfl (ov_lt hlen (by decide)), ov_at rfl (ov_lt hlen (by decide)), ov_at rfl (ov_lt hlen (by decide))⟩
  generalize ov hp [(3, dcl3 P Dn lw cl id gl bo), (4, lng pn), (5, ia ri), (6, ia lf), (7, ia wa), (8, ia fo), (9, lng dn), (10, ia ha), (11, ia pa), (12, ia bl), (157, dcl157 P Dn lw cl id gl bo), (158, lng pn), (159, ia ri), (160, ia lf), (161, ia wa), (162, ia fo), (163, lng dn), (164, ia ha), (165, ia pa), (166, ia bl)] = h1 at hcp G1 A1 hc0
  obtain ⟨⟨h20, h2⟩, f2, x2⟩ := co_run sypc_2220 (hp := h1) (ρ := [0]) (As := [.ref 23, .ref 167]) (en_full []) ⟨rfl, rfl, trivial⟩ (fun q hq => absurd hq List.not_mem_nil) G1
  have q2 := co_no (C := sypt_2220) (by decide +kernel) x2
  have q2 : h20 = none := q2
  subst q2
  obtain ⟨⟨h30, h3⟩, f3, x3⟩ := co_run sypc_2527 (hp := h2) (ρ := [0]) (As := [.ref 115, .ref 175]) (en_full []) ⟨rfl, rfl, trivial⟩ (fun q hq => absurd hq List.not_mem_nil) x2.2.1
  have q3 := co_no (C := sypt_2527) (by decide +kernel) x3
  have q3 : h30 = none := q3
  subst q3
  have G2 := x2.2.1
  have G3 := x3.2.1
  have A2 := x2.1
  have A3 := x3.1
  obtain ⟨an, li, ar, ar0, ar1⟩ := im_arr G
  obtain ⟨fi, oi, -⟩ := ob_at G (a := 156) (ct := gc156) rfl rfl
  obtain ⟨fb1, ob1, -⟩ := ob_at G (a := 3) (ct := gc3) rfl rfl
  obtain ⟨fb2, ob2, -⟩ := ob_at G1 (a := 23) (ct := gc23) rfl rfl
  obtain ⟨fb3, ob3, -⟩ := ob_at G2 (a := 115) (ct := gc115) rfl rfl
  obtain ⟨⟨h40, h4⟩, f4, x4⟩ := co_run sypc_49 (hp := h3) (ρ := [0]) (As := [.ref 39]) (en_full []) ⟨rfl, trivial⟩ (fun q hq => absurd hq List.not_mem_nil) G3
  have q5 := co_no (C := sypt_49) (by decide +kernel) x4
  have q5 : h40 = none := q5
  subst q5
  have A4 := x4.1
  have hk2 : FR 2 85 [.ref 156, .ref 3, .ref 23, .ref 115] hp (none, h3) := by
    refine FR_of rfl ?_
    refine rt_ald rfl rfl ?_
    refine rt_ald rfl rfl ?_
    refine rt_gf rfl (gfo G (ct := gc156) (y := 1) (r := 157) rfl rfl (by decide) rfl) ?_
    refine rt_ivP rfl rfl rfl ob1 rfl rfl (hcp.up (by decide)) ?_
    refine rt_ald rfl rfl ?_
    refine rt_ald rfl rfl ?_
    refine rt_gf rfl (gfo G1 (ct := gc156) (y := 2) (r := 167) rfl rfl (by decide) rfl) ?_
    refine rt_ivP rfl rfl rfl ob2 rfl rfl (f2.up (by decide)) ?_
    refine rt_ald rfl rfl ?_
    refine rt_ald rfl rfl ?_
    refine rt_gf rfl (gfo G2 (ct := gc156) (y := 3) (r := 175) rfl rfl (by decide) rfl) ?_
    refine rt_ivP rfl rfl rfl ob3 rfl rfl (f3.up (by decide)) ?_
    exact ow_ret rfl rfl rfl
  obtain ⟨fp3, op3, -⟩ := ob_at G3 (a := 39) (ct := gc39) rfl rfl
  have g05 : ev_gf h3 0 10 5 = some (.ref 39) := gfo G3 (ct := gc0) (y := 5) (r := 39) rfl rfl (by decide) rfl
  have kc : ∀ a, 3 ≤ a → a ≤ 12 → Ceq h1 h4 a := cas10 (m := 3) (kcf A2 A3 A4 (by decide +kernel) (by decide +kernel) (by decide +kernel)) (kcf A2 A3 A4 (by decide +kernel) (by decide +kernel) (by decide +kernel)) (kcf A2 A3 A4 (by decide +kernel) (by decide +kernel) (by decide +kernel)) (kcf A2 A3 A4 (by decide +kernel) (by decide +kernel) (by decide +kernel)) (kcf A2 A3 A4 (by decide +kernel) (by decide +kernel) (by decide +kernel)) (kcf A2 A3 A4 (by decide +kernel) (by decide +kernel) (by decide +kernel)) (kcf A2 A3 A4 (by decide +kernel) (by decide +kernel) (by decide +kernel)) (kcf A2 A3 A4 (by decide +kernel) (by decide +kernel) (by decide +kernel)) (kcf A2 A3 A4 (by decide +kernel) (by decide +kernel) (by decide +kernel)) (kcf A2 A3 A4 (by decide +kernel) (by decide +kernel) (by decide +kernel))
  obtain ⟨n0, n1, n2, n3, n4, n5, n6, n7, n8, n9⟩ := hc0
  refine ⟨P, Dn, lw, cl, id, gl, bo, pn, ri, lf, wa, fo, dn, ha, pa, bl, rd, rn, h4, ?_, ce_obj (kc 3 (by decide) (by decide)) n0, ce_lng (kc 4 (by decide) (by decide)) n1, ce_int (kc 5 (by decide) (by decide)) n2, ce_int (kc 6 (by decide) (by decide)) n3, ce_int (kc 7 (by decide) (by decide)) n4, ce_int (kc 8 (by decide) (by decide)) n5, ce_lng (kc 9 (by decide) (by decide)) n6, ce_int (kc 10 (by decide) (by decide)) n7, ce_int (kc 11 (by decide) (by decide)) n8, ce_int (kc 12 (by decide) (by decide)) n9, z1, z2, z3, z4, z5⟩
  refine FR_of rfl ?_
  refine rt_ild rfl rfl ?_
  refine RT_step rfl (fun _ _ => rfl) ?_
  refine RT_el (by decide) ?_
  refine rt_ild rfl rfl ?_
  refine rt_ald rfl rfl ?_
  refine rt_gf rfl (gf_lit (y := 12) e0 rfl) ?_
  refine rt_anP rfl an (by decide) ?_
  refine RT_step rfl (fun _ _ => rfl) ?_
  refine RT_el (by decide) ?_
  refine rt_ald rfl rfl ?_
  refine rt_gf rfl (gf_lit (y := 12) e0 rfl) ?_
  refine rt_ild rfl rfl ?_
  refine rt_aaP rfl ar ar1 (by decide) ?_
  refine rt_gf rfl (gf_of (n := 4) (G.1 156 gc156 rfl).1 hk) ?_
  refine RT_step rfl (fun _ _ => rfl) ?_
  refine RT_el (by decide) ?_
  refine rt_ald rfl rfl ?_
  refine rt_gf rfl (gf_lit (y := 12) e0 rfl) ?_
  refine rt_ild rfl rfl ?_
  refine rt_aaP rfl ar ar1 (by decide) ?_
  refine rt_ald rfl rfl ?_
  refine rt_gf rfl (gf_lit (y := 1) e0 rfl) ?_
  refine rt_ald rfl rfl ?_
  refine rt_gf rfl (gf_lit (y := 3) e0 rfl) ?_
  refine rt_ald rfl rfl ?_
  refine rt_gf rfl (gf_lit (y := 7) e0 rfl) ?_
  refine rt_ivP rfl rfl rfl oi rfl rfl hk2 ?_
  refine rt_ald rfl rfl ?_
  refine rt_gf rfl g05 ?_
  refine rt_ivP rfl rfl rfl op3 rfl rfl (f4.up (by decide)) ?_
  refine rt_ico rfl (show Int32.ofInt 1 = 1 from rfl) ?_
  exact rt_irt rfl rfl ⟨rfl, rfl⟩
theorem im1_13_110 {hp : List AE} (G : hp_ok GG hp) (hlen : Nat.ble 204 hp.length = true) (h0d : hq hp 0 1 = some (.ref 13)) (hse : hq hp 0 7 = some (.ref 110)) (hD : DH13 hp 182 0 187 0) : ∃ (P : Nat) (Dn : Nat) (lw : Int32) (cl : Int32) (id : Int32) (gl : Nat) (bo : Nat) (pn : List Int64) (ri : List Int32) (lf : List Int32) (wa : List Int32) (fo : List Int32) (dn : List Int64) (ha : List Int32) (pa : List Int32) (bl : List Int32) (rd : List Int32) (rn : List Int64), ∃ h9 : List AE, FR 3 25 [.ref 0, .int (Int32.ofNat 1)] hp (some (.int 1), h9) ∧ h9[157]? = some (dcl157 P Dn lw cl id gl bo) ∧ h9[158]? = some (lng pn) ∧ h9[159]? = some (ia ri) ∧ h9[160]? = some (ia lf) ∧ h9[161]? = some (ia wa) ∧ h9[162]? = some (ia fo) ∧ h9[163]? = some (lng dn) ∧ h9[164]? = some (ia ha) ∧ h9[165]? = some (ia pa) ∧ h9[166]? = some (ia bl) ∧ rd.length = 101 ∧ rn.length = 15 ∧ DF P Dn lw cl id gl bo pn ri lf wa fo dn ha pa bl rd rn ∧ (∀ j, j < 101 → hq hp 182 (0 + j) = (rd[j]?).map Value.int) ∧ (∀ j, j < 15 → hq hp 187 (0 + j) = (rn[j]?).map Value.long) := by
  obtain ⟨d, s, se, ss, lt, fb, tq, gb, e0, -, -, -, -⟩ := oc_0 G
  rw [hq_obj e0] at h0d hse
  have h0d : some (Value.ref d) = some (.ref 13) := h0d
  have hse : some (Value.ref se) = some (.ref 110) := hse
  obtain rfl := Value.ref.inj (Option.some.inj h0d)
  obtain rfl := Value.ref.inj (Option.some.inj hse)
  obtain ⟨P, Dn, lw, cl, id, gl, bo, pn, ri, lf, wa, fo, dn, ha, pa, bl, rd, rn, h0, h1, h2, h3, h4, h5, h6, h7, h8, h9, z1, z2, z3, z4, z5⟩ := hD
  obtain ⟨P2, Dn2, lw2, cl2, id2, gl2, bo2, eb, -, -⟩ := oc_157 G
  obtain ⟨pn2, -, m1, ca1⟩ := al_of (hp := hp) (a := 158) (t := 2) (n := 7) (G.1 158 gc158 rfl).1
  obtain ⟨ri2, -, m2, ca2⟩ := ai_of (hp := hp) (a := 159) (t := 1) (n := 7) (G.1 159 gc159 rfl).1
  obtain ⟨lf2, -, m3, ca3⟩ := ai_of (hp := hp) (a := 160) (t := 1) (n := 7) (G.1 160 gc160 rfl).1
  obtain ⟨wa2, -, m4, ca4⟩ := ai_of (hp := hp) (a := 161) (t := 1) (n := 7) (G.1 161 gc161 rfl).1
  obtain ⟨fo2, -, m5, ca5⟩ := ai_of (hp := hp) (a := 162) (t := 1) (n := 49) (G.1 162 gc162 rfl).1
  obtain ⟨dn2, -, m6, ca6⟩ := al_of (hp := hp) (a := 163) (t := 2) (n := 8) (G.1 163 gc163 rfl).1
  obtain ⟨ha2, -, m7, ca7⟩ := ai_of (hp := hp) (a := 164) (t := 1) (n := 8) (G.1 164 gc164 rfl).1
  obtain ⟨pa2, -, m8, ca8⟩ := ai_of (hp := hp) (a := 165) (t := 1) (n := 8) (G.1 165 gc165 rfl).1
  obtain ⟨bl2, -, m9, ca9⟩ := ai_of (hp := hp) (a := 166) (t := 1) (n := 8) (G.1 166 gc166 rfl).1
  have o1 : ov hp [(157, dcl157 P2 Dn2 lw2 cl2 id2 gl2 bo2), (158, lng pn2), (159, ia ri2), (160, ia lf2), (161, ia wa2), (162, ia fo2), (163, lng dn2), (164, ia ha2), (165, ia pa2), (166, ia bl2), (13, dcl13 P Dn lw cl id gl bo), (14, lng pn), (15, ia ri), (16, ia lf), (17, ia wa), (18, ia fo), (19, lng dn), (20, ia ha), (21, ia pa), (22, ia bl)] = hp := ov_id eb (ov_id ca1 (ov_id ca2 (ov_id ca3 (ov_id ca4 (ov_id ca5 (ov_id ca6 (ov_id ca7 (ov_id ca8 (ov_id ca9 (ov_id h0 (ov_id h1 (ov_id h2 (ov_id h3 (ov_id h4 (ov_id h5 (ov_id h6 (ov_id h7 (ov_id h8 (ov_c1 h9)))))))))))))))))))
  have hcp := x_copy157_13 (H := hp) hlen (P := P) (P2 := P2) (Dn := Dn) (Dn2 := Dn2) (lw := lw) (lw2 := lw2) (cl := cl) (cl2 := cl2) (id := id) (id2 := id2) (gl := gl) (gl2 := gl2) (bo := bo) (bo2 := bo2) z3.2.2.1 ⟨m1, m2, m3, m4, m5, m6, m7, m8, m9⟩
  rw [o1] at hcp
  obtain ⟨⟨w0, w⟩, fw, ew⟩ := co_run sypc_2515 (hp := hp) (ρ := [0]) (As := [.ref 157, .ref 13]) (en_full []) ⟨rfl, rfl, trivial⟩ (fun q hq => absurd hq List.not_mem_nil) G
  obtain ⟨-, q4⟩ := Prod.mk.inj (FR.det fw hcp)
  have G1 : hp_ok GG (ov hp [(157, dcl157 P Dn lw cl id gl bo), (158, lng pn), (159, ia ri), (160, ia lf), (161, ia wa), (162, ia fo), (163, lng dn), (164, ia ha), (165, ia pa), (166, ia bl), (13, dcl13 P Dn lw cl id gl bo), (14, lng pn), (15, ia ri), (16, ia lf), (17, ia wa), (18, ia fo), (19, lng dn), (20, ia ha), (21, ia pa), (22, ia bl)]) := q4 ▸ ew.2.1
  have A1 := ew.1
  rw [q4] at A1
  have hc0 : (ov hp [(157, dcl157 P Dn lw cl id gl bo), (158, lng pn), (159, ia ri), (160, ia lf), (161, ia wa), (162, ia fo), (163, lng dn), (164, ia ha), (165, ia pa), (166, ia bl), (13, dcl13 P Dn lw cl id gl bo), (14, lng pn), (15, ia ri), (16, ia lf), (17, ia wa), (18, ia fo), (19, lng dn), (20, ia ha), (21, ia pa), (22, ia bl)])[157]? = some (dcl157 P Dn lw cl id gl bo) ∧ (ov hp [(157, dcl157 P Dn lw cl id gl bo), (158, lng pn), (159, ia ri), (160, ia lf), (161, ia wa), (162, ia fo), (163, lng dn), (164, ia ha), (165, ia pa), (166, ia bl), (13, dcl13 P Dn lw cl id gl bo), (14, lng pn), (15, ia ri), (16, ia lf), (17, ia wa), (18, ia fo), (19, lng dn), (20, ia ha), (21, ia pa), (22, ia bl)])[158]? = some (lng pn) ∧ (ov hp [(157, dcl157 P Dn lw cl id gl bo), (158, lng pn), (159, ia ri), (160, ia lf), (161, ia wa), (162, ia fo), (163, lng dn), (164, ia ha), (165, ia pa), (166, ia bl), (13, dcl13 P Dn lw cl id gl bo), (14, lng pn), (15, ia ri), (16, ia lf), (17, ia wa), (18, ia fo), (19, lng dn), (20, ia ha), (21, ia pa), (22, ia bl)])[159]? = some (ia ri) ∧ (ov hp [(157, dcl157 P Dn lw cl id gl bo), (158, lng pn), (159, ia ri), (160, ia lf), (161, ia wa), (162, ia fo), (163, lng dn), (164, ia ha), (165, ia pa), (166, ia bl), (13, dcl13 P Dn lw cl id gl bo), (14, lng pn), (15, ia ri), (16, ia lf), (17, ia wa), (18, ia fo), (19, lng dn), (20, ia ha), (21, ia pa), (22, ia bl)])[160]? = some (ia lf) ∧ (ov hp [(157, dcl157 P Dn lw cl id gl bo), (158, lng pn), (159, ia ri), (160, ia lf), (161, ia wa), (162, ia fo), (163, lng dn), (164, ia ha), (165, ia pa), (166, ia bl), (13, dcl13 P Dn lw cl id gl bo), (14, lng pn), (15, ia ri), (16, ia lf), (17, ia wa), (18, ia fo), (19, lng dn), (20, ia ha), (21, ia pa), (22, ia bl)])[161]? = some (ia wa) ∧ (ov hp [(157, dcl157 P Dn lw cl id gl bo), (158, lng pn), (159, ia ri), (160, ia lf), (161, ia wa), (162, ia fo), (163, lng dn), (164, ia ha), (165, ia pa), (166, ia bl), (13, dcl13 P Dn lw cl id gl bo), (14, lng pn), (15, ia ri), (16, ia lf), (17, ia wa), (18, ia fo), (19, lng dn), (20, ia ha), (21, ia pa), (22, ia bl)])[162]? = some (ia fo) ∧ (ov hp [(157, dcl157 P Dn lw cl id gl bo), (158, lng pn), (159, ia ri), (160, ia lf), (161, ia wa), (162, ia fo), (163, lng dn), (164, ia ha), (165, ia pa), (166, ia bl), (13, dcl13 P Dn lw cl id gl bo), (14, lng pn), (15, ia ri), (16, ia lf), (17, ia wa), (18, ia fo), (19, lng dn), (20, ia ha), (21, ia pa), (22, ia bl)])[163]? = some (lng dn) ∧ (ov hp [(157, dcl157 P Dn lw cl id gl bo), (158, lng pn), (159, ia ri), (160, ia lf), (161, ia wa), (162, ia fo), (163, lng dn), (164, ia ha), (165, ia pa), (166, ia bl), (13, dcl13 P Dn lw cl id gl bo), (14, lng pn), (15, ia ri), (16, ia lf), (17, ia wa), (18, ia fo), (19, lng dn), (20, ia ha), (21, ia pa), (22, ia bl)])[164]? = some (ia ha) ∧ (ov hp [(157, dcl157 P Dn lw cl id gl bo), (158, lng pn), (159, ia ri), (160, ia lf), (161, ia wa), (162, ia fo), (163, lng dn), (164, ia ha), (165, ia pa), (166, ia bl), (13, dcl13 P Dn lw cl id gl bo), (14, lng pn), (15, ia ri), (16, ia lf), (17, ia wa), (18, ia fo), (19, lng dn), (20, ia ha), (21, ia pa), (22, ia bl)])[165]? = some (ia pa) ∧ (ov hp [(157, dcl157 P Dn lw cl id gl bo), (158, lng pn), (159, ia ri), (160, ia lf), (161, ia wa), (162, ia fo), (163, lng dn), (164, ia ha), (165, ia pa), (166, ia bl), (13, dcl13 P Dn lw cl id gl bo), (14, lng pn), (15, ia ri), (16, ia lf), (17, ia wa), (18, ia fo), (19, lng dn), (20, ia ha), (21, ia pa), (22, ia bl)])[166]? = some (ia bl) := ⟨ov_at rfl (ov_lt hlen (by decide)), ov_at rfl (ov_lt hlen (by decide)), ov_at rfl (ov_lt hlen (by decide)), ov_at rfl (ov_lt hlen (by decide)), ov_at rfl (ov_lt hlen (by decide)), ov_at rfl (ov_lt hlen (by decide)), ov_at rfl (ov_lt hlen (by decide)), ov_at rfl (ov_lt hlen (by decide)), ov_at rfl (ov_lt hlen (by decide)), ov_at rfl (ov_lt hlen (by decide))⟩
  generalize ov hp [(157, dcl157 P Dn lw cl id gl bo), (158, lng pn), (159, ia ri), (160, ia lf), (161, ia wa), (162, ia fo), (163, lng dn), (164, ia ha), (165, ia pa), (166, ia bl), (13, dcl13 P Dn lw cl id gl bo), (14, lng pn), (15, ia ri), (16, ia lf), (17, ia wa), (18, ia fo), (19, lng dn), (20, ia ha), (21, ia pa), (22, ia bl)] = h1 at hcp G1 A1 hc0
  obtain ⟨⟨h20, h2⟩, f2, x2⟩ := co_run sypc_2211 (hp := h1) (ρ := [0]) (As := [.ref 167, .ref 23]) (en_full []) ⟨rfl, rfl, trivial⟩ (fun q hq => absurd hq List.not_mem_nil) G1
  have q2 := co_no (C := sypt_2211) (by decide +kernel) x2
  have q2 : h20 = none := q2
  subst q2
  obtain ⟨⟨h30, h3⟩, f3, x3⟩ := co_run sypc_2212 (hp := h2) (ρ := [0]) (As := [.ref 175, .ref 110]) (en_full []) ⟨rfl, rfl, trivial⟩ (fun q hq => absurd hq List.not_mem_nil) x2.2.1
  have q3 := co_no (C := sypt_2212) (by decide +kernel) x3
  have q3 : h30 = none := q3
  subst q3
  have G2 := x2.2.1
  have G3 := x3.2.1
  have A2 := x2.1
  have A3 := x3.1
  obtain ⟨an, li, ar, ar0, ar1⟩ := im_arr G
  obtain ⟨fi, oi, -⟩ := ob_at G (a := 156) (ct := gc156) rfl rfl
  obtain ⟨fs, i1, i2⟩ := ob_at G3 (a := 156) (ct := gc156) rfl rfl
  obtain ⟨fb1, ob1, -⟩ := ob_at G (a := 157) (ct := gc157) rfl rfl
  obtain ⟨fb2, ob2, -⟩ := ob_at G1 (a := 167) (ct := gc167) rfl rfl
  obtain ⟨fb3, ob3, -⟩ := ob_at G2 (a := 175) (ct := gc175) rfl rfl
  have hk : FR 2 86 [.ref 156, .ref 13, .ref 23, .ref 110] hp (none, (h3.set 156 (.inr (2, fs.set 0 (.int 1))))) := by
    refine FR_of rfl ?_
    refine rt_ald rfl rfl ?_
    refine rt_gf rfl (gfo G (ct := gc156) (y := 1) (r := 157) rfl rfl (by decide) rfl) ?_
    refine rt_ald rfl rfl ?_
    refine rt_ivP rfl rfl rfl ob1 rfl rfl (hcp.up (by decide)) ?_
    refine rt_ald rfl rfl ?_
    refine rt_gf rfl (gfo G1 (ct := gc156) (y := 2) (r := 167) rfl rfl (by decide) rfl) ?_
    refine rt_ald rfl rfl ?_
    refine rt_ivP rfl rfl rfl ob2 rfl rfl (f2.up (by decide)) ?_
    refine rt_ald rfl rfl ?_
    refine rt_gf rfl (gfo G2 (ct := gc156) (y := 3) (r := 175) rfl rfl (by decide) rfl) ?_
    refine rt_ald rfl rfl ?_
    refine rt_ivP rfl rfl rfl ob3 rfl rfl (f3.up (by decide)) ?_
    refine rt_ald rfl rfl ?_
    refine rt_ico rfl (show Int32.ofInt 1 = 1 from rfl) ?_
    refine rt_put rfl i1 rfl (by omega) (by decide +kernel) ?_
    exact ow_ret rfl rfl rfl
  have u := upd_f (v := .int 1) i1 (show 0 < fs.length by omega)
  have kc : ∀ a, 157 ≤ a → a ≤ 166 → Ceq h1 (h3.set 156 (.inr (2, fs.set 0 (.int 1)))) a := cas10 (m := 157) (kce A2 A3 u (by decide +kernel) (by decide +kernel) (by decide)) (kce A2 A3 u (by decide +kernel) (by decide +kernel) (by decide)) (kce A2 A3 u (by decide +kernel) (by decide +kernel) (by decide)) (kce A2 A3 u (by decide +kernel) (by decide +kernel) (by decide)) (kce A2 A3 u (by decide +kernel) (by decide +kernel) (by decide)) (kce A2 A3 u (by decide +kernel) (by decide +kernel) (by decide)) (kce A2 A3 u (by decide +kernel) (by decide +kernel) (by decide)) (kce A2 A3 u (by decide +kernel) (by decide +kernel) (by decide)) (kce A2 A3 u (by decide +kernel) (by decide +kernel) (by decide)) (kce A2 A3 u (by decide +kernel) (by decide +kernel) (by decide))
  obtain ⟨n0, n1, n2, n3, n4, n5, n6, n7, n8, n9⟩ := hc0
  refine ⟨P, Dn, lw, cl, id, gl, bo, pn, ri, lf, wa, fo, dn, ha, pa, bl, rd, rn, (h3.set 156 (.inr (2, fs.set 0 (.int 1)))), ?_, ce_obj (kc 157 (by decide) (by decide)) n0, ce_lng (kc 158 (by decide) (by decide)) n1, ce_int (kc 159 (by decide) (by decide)) n2, ce_int (kc 160 (by decide) (by decide)) n3, ce_int (kc 161 (by decide) (by decide)) n4, ce_int (kc 162 (by decide) (by decide)) n5, ce_lng (kc 163 (by decide) (by decide)) n6, ce_int (kc 164 (by decide) (by decide)) n7, ce_int (kc 165 (by decide) (by decide)) n8, ce_int (kc 166 (by decide) (by decide)) n9, z1, z2, z3, z4, z5⟩
  refine FR_of rfl ?_
  refine rt_ild rfl rfl ?_
  refine RT_step rfl (fun _ _ => rfl) ?_
  refine RT_el (by decide) ?_
  refine rt_ild rfl rfl ?_
  refine rt_ald rfl rfl ?_
  refine rt_gf rfl (gf_lit (y := 12) e0 rfl) ?_
  refine rt_anP rfl an (by decide) ?_
  refine RT_step rfl (fun _ _ => rfl) ?_
  refine RT_if (by decide) ?_
  refine rt_ald rfl rfl ?_
  refine rt_gf rfl (gf_lit (y := 12) e0 rfl) ?_
  refine rt_ild rfl rfl ?_
  refine rt_aaP rfl ar ar1 (by decide) ?_
  refine rt_ald rfl rfl ?_
  refine rt_gf rfl (gf_lit (y := 1) e0 rfl) ?_
  refine rt_ald rfl rfl ?_
  refine rt_gf rfl (gf_lit (y := 3) e0 rfl) ?_
  refine rt_ald rfl rfl ?_
  refine rt_gf rfl (gf_lit (y := 7) e0 rfl) ?_
  refine rt_ivP rfl rfl rfl oi rfl rfl hk ?_
  refine rt_ico rfl (show Int32.ofInt 1 = 1 from rfl) ?_
  exact rt_irt rfl rfl ⟨rfl, rfl⟩
theorem re1_13_110 {hp : List AE} (G : hp_ok GG hp) (hlen : Nat.ble 204 hp.length = true) (h0d : hq hp 0 1 = some (.ref 13)) (hse : hq hp 0 7 = some (.ref 110)) (hk : hq hp 156 0 = some (.int 1)) (hD : DH157 hp 184 396 189 15) : ∃ (P : Nat) (Dn : Nat) (lw : Int32) (cl : Int32) (id : Int32) (gl : Nat) (bo : Nat) (pn : List Int64) (ri : List Int32) (lf : List Int32) (wa : List Int32) (fo : List Int32) (dn : List Int64) (ha : List Int32) (pa : List Int32) (bl : List Int32) (rd : List Int32) (rn : List Int64), ∃ h9 : List AE, FR 3 35 [.ref 0, .int (Int32.ofNat 1)] hp (some (.int 1), h9) ∧ h9[13]? = some (dcl13 P Dn lw cl id gl bo) ∧ h9[14]? = some (lng pn) ∧ h9[15]? = some (ia ri) ∧ h9[16]? = some (ia lf) ∧ h9[17]? = some (ia wa) ∧ h9[18]? = some (ia fo) ∧ h9[19]? = some (lng dn) ∧ h9[20]? = some (ia ha) ∧ h9[21]? = some (ia pa) ∧ h9[22]? = some (ia bl) ∧ rd.length = 101 ∧ rn.length = 15 ∧ DF P Dn lw cl id gl bo pn ri lf wa fo dn ha pa bl rd rn ∧ (∀ j, j < 101 → hq hp 184 (396 + j) = (rd[j]?).map Value.int) ∧ (∀ j, j < 15 → hq hp 189 (15 + j) = (rn[j]?).map Value.long) := by
  obtain ⟨d, s, se, ss, lt, fb, tq, gb, e0, -, -, -, -⟩ := oc_0 G
  rw [hq_obj e0] at h0d hse
  have h0d : some (Value.ref d) = some (.ref 13) := h0d
  have hse : some (Value.ref se) = some (.ref 110) := hse
  obtain rfl := Value.ref.inj (Option.some.inj h0d)
  obtain rfl := Value.ref.inj (Option.some.inj hse)
  obtain ⟨P, Dn, lw, cl, id, gl, bo, pn, ri, lf, wa, fo, dn, ha, pa, bl, rd, rn, h0, h1, h2, h3, h4, h5, h6, h7, h8, h9, z1, z2, z3, z4, z5⟩ := hD
  obtain ⟨P2, Dn2, lw2, cl2, id2, gl2, bo2, eb, -, -⟩ := oc_13 G
  obtain ⟨pn2, -, m1, ca1⟩ := al_of (hp := hp) (a := 14) (t := 2) (n := 7) (G.1 14 gc14 rfl).1
  obtain ⟨ri2, -, m2, ca2⟩ := ai_of (hp := hp) (a := 15) (t := 1) (n := 7) (G.1 15 gc15 rfl).1
  obtain ⟨lf2, -, m3, ca3⟩ := ai_of (hp := hp) (a := 16) (t := 1) (n := 7) (G.1 16 gc16 rfl).1
  obtain ⟨wa2, -, m4, ca4⟩ := ai_of (hp := hp) (a := 17) (t := 1) (n := 7) (G.1 17 gc17 rfl).1
  obtain ⟨fo2, -, m5, ca5⟩ := ai_of (hp := hp) (a := 18) (t := 1) (n := 49) (G.1 18 gc18 rfl).1
  obtain ⟨dn2, -, m6, ca6⟩ := al_of (hp := hp) (a := 19) (t := 2) (n := 8) (G.1 19 gc19 rfl).1
  obtain ⟨ha2, -, m7, ca7⟩ := ai_of (hp := hp) (a := 20) (t := 1) (n := 8) (G.1 20 gc20 rfl).1
  obtain ⟨pa2, -, m8, ca8⟩ := ai_of (hp := hp) (a := 21) (t := 1) (n := 8) (G.1 21 gc21 rfl).1
  obtain ⟨bl2, -, m9, ca9⟩ := ai_of (hp := hp) (a := 22) (t := 1) (n := 8) (G.1 22 gc22 rfl).1
  have o1 : ov hp [(13, dcl13 P2 Dn2 lw2 cl2 id2 gl2 bo2), (14, lng pn2), (15, ia ri2), (16, ia lf2), (17, ia wa2), (18, ia fo2), (19, lng dn2), (20, ia ha2), (21, ia pa2), (22, ia bl2), (157, dcl157 P Dn lw cl id gl bo), (158, lng pn), (159, ia ri), (160, ia lf), (161, ia wa), (162, ia fo), (163, lng dn), (164, ia ha), (165, ia pa), (166, ia bl)] = hp := ov_id eb (ov_id ca1 (ov_id ca2 (ov_id ca3 (ov_id ca4 (ov_id ca5 (ov_id ca6 (ov_id ca7 (ov_id ca8 (ov_id ca9 (ov_id h0 (ov_id h1 (ov_id h2 (ov_id h3 (ov_id h4 (ov_id h5 (ov_id h6 (ov_id h7 (ov_id h8 (ov_c1 h9)))))))))))))))))))
  have hcp := x_copy13_157 (H := hp) hlen (P := P) (P2 := P2) (Dn := Dn) (Dn2 := Dn2) (lw := lw) (lw2 := lw2) (cl := cl) (cl2 := cl2) (id := id) (id2 := id2) (gl := gl) (gl2 := gl2) (bo := bo) (bo2 := bo2) z3.2.2.1 ⟨m1, m2, m3, m4, m5, m6, m7, m8, m9⟩
  rw [o1] at hcp
  obtain ⟨⟨w0, w⟩, fw, ew⟩ := co_run sypc_2526 (hp := hp) (ρ := [0]) (As := [.ref 13, .ref 157]) (en_full []) ⟨rfl, rfl, trivial⟩ (fun q hq => absurd hq List.not_mem_nil) G
  obtain ⟨-, q4⟩ := Prod.mk.inj (FR.det fw hcp)
  have G1 : hp_ok GG (ov hp [(13, dcl13 P Dn lw cl id gl bo), (14, lng pn), (15, ia ri), (16, ia lf), (17, ia wa), (18, ia fo), (19, lng dn), (20, ia ha), (21, ia pa), (22, ia bl), (157, dcl157 P Dn lw cl id gl bo), (158, lng pn), (159, ia ri), (160, ia lf), (161, ia wa), (162, ia fo), (163, lng dn), (164, ia ha), (165, ia pa), (166, ia bl)]) := q4 ▸ ew.2.1
  have A1 := ew.1
  rw [q4] at A1
  have hc0 : (ov hp [(13, dcl13 P Dn lw cl id gl bo), (14, lng pn), (15, ia ri), (16, ia lf), (17, ia wa), (18, ia fo), (19, lng dn), (20, ia ha), (21, ia pa), (22, ia bl), (157, dcl157 P Dn lw cl id gl bo), (158, lng pn), (159, ia ri), (160, ia lf), (161, ia wa), (162, ia fo), (163, lng dn), (164, ia ha), (165, ia pa), (166, ia bl)])[13]? = some (dcl13 P Dn lw cl id gl bo) ∧ (ov hp [(13, dcl13 P Dn lw cl id gl bo), (14, lng pn), (15, ia ri), (16, ia lf), (17, ia wa), (18, ia fo), (19, lng dn), (20, ia ha), (21, ia pa), (22, ia bl), (157, dcl157 P Dn lw cl id gl bo), (158, lng pn), (159, ia ri), (160, ia lf), (161, ia wa), (162, ia fo), (163, lng dn), (164, ia ha), (165, ia pa), (166, ia bl)])[14]? = some (lng pn) ∧ (ov hp [(13, dcl13 P Dn lw cl id gl bo), (14, lng pn), (15, ia ri), (16, ia lf), (17, ia wa), (18, ia fo), (19, lng dn), (20, ia ha), (21, ia pa), (22, ia bl), (157, dcl157 P Dn lw cl id gl bo), (158, lng pn), (159, ia ri), (160, ia lf), (161, ia wa), (162, ia fo), (163, lng dn), (164, ia ha), (165, ia pa), (166, ia bl)])[15]? = some (ia ri) ∧ (ov hp [(13, dcl13 P Dn lw cl id gl bo), (14, lng pn), (15, ia ri), (16, ia lf), (17, ia wa), (18, ia fo), (19, lng dn), (20, ia ha), (21, ia pa), (22, ia bl), (157, dcl157 P Dn lw cl id gl bo), (158, lng pn), (159, ia ri), (160, ia lf), (161, ia wa), (162, ia fo), (163, lng dn), (164, ia ha), (165, ia pa), (166, ia bl)])[16]? = some (ia lf) ∧ (ov hp [(13, dcl13 P Dn lw cl id gl bo), (14, lng pn), (15, ia ri), (16, ia lf), (17, ia wa), (18, ia fo), (19, lng dn), (20, ia ha), (21, ia pa), (22, ia bl), (157, dcl157 P Dn lw cl id gl bo), (158, lng pn), (159, ia ri), (160, ia lf), (161, ia wa), (162, ia fo), (163, lng dn), (164, ia ha), (165, ia pa), (166, ia bl)])[17]? = some (ia wa) ∧ (ov hp [(13, dcl13 P Dn lw cl id gl bo), (14, lng pn), (15, ia ri), (16, ia lf), (17, ia wa), (18, ia fo), (19, lng dn), (20, ia ha), (21, ia pa), (22, ia bl), (157, dcl157 P Dn lw cl id gl bo), (158, lng pn), (159, ia ri), (160, ia lf), (161, ia wa), (162, ia fo), (163, lng dn), (164, ia ha), (165, ia pa), (166, ia bl)])[18]? = some (ia fo) ∧ (ov hp [(13, dcl13 P Dn lw cl id gl bo), (14, lng pn), (15, ia ri), (16, ia lf), (17, ia wa), (18, ia fo), (19, lng dn), (20, ia ha), (21, ia pa), (22, ia bl), (157, dcl157 P Dn lw cl id gl bo), (158, lng pn), (159, ia ri), (160, ia lf), (161, ia wa), (162, ia fo), (163, lng dn), (164, ia ha), (165, ia pa), (166, ia bl)])[19]? = some (lng dn) ∧ (ov hp [(13, dcl13 P Dn lw cl id gl bo), (14, lng pn), (15, ia ri), (16, ia lf), (17, ia wa), (18, ia fo), (19, lng dn), (20, ia ha), (21, ia pa), (22, ia bl), (157, dcl157 P Dn lw cl id gl bo), (158, lng pn), (159, ia ri), (160, ia lf), (161, ia wa), (162, ia fo), (163, lng dn), (164, ia ha), (165, ia pa), (166, ia bl)])[20]? = some (ia ha) ∧ (ov hp [(13, dcl13 P Dn lw cl id gl bo), (14, lng pn), (15, ia ri), (16, ia lf), (17, ia wa), (18, ia fo), (19, lng dn), (20, ia ha), (21, ia pa), (22, ia bl), (157, dcl157 P Dn lw cl id gl bo), (158, lng pn), (159, ia ri), (160, ia lf), (161, ia wa), (162, ia fo), (163, lng dn), (164, ia ha), (165, ia pa), (166, ia bl)])[21]? = some (ia pa) ∧ (ov hp [(13, dcl13 P Dn lw cl id gl bo), (14, lng pn), (15, ia ri), (16, ia lf), (17, ia wa), (18, ia fo), (19, lng dn), (20, ia ha), (21, ia pa), (22, ia bl), (157, dcl157 P Dn lw cl id gl bo), (158, lng pn), (159, ia ri), (160, ia lf), (161, ia wa), (162, ia fo), (163, lng dn), (164, ia ha), (165, ia pa), (166, ia bl)])[22]? = some (ia bl) := ⟨ov_at rfl (ov_lt hlen (by decide)), ov_at rfl (ov_lt hlen (by decide)), ov_at rfl (ov_lt hlen (by decide)), ov_at rfl (ov_lt hlen (by decide)), ov_at rfl (ov_lt hlen (by decide)), ov_at rfl (ov_lt hlen (by decide)), ov_at rfl (ov_lt hlen (by decide)), ov_at rfl (ov_lt hlen (by decide)), ov_at rfl (ov_lt hlen (by decide)), ov_at rfl (ov_lt hlen (by decide))⟩
  generalize ov hp [(13, dcl13 P Dn lw cl id gl bo), (14, lng pn), (15, ia ri), (16, ia lf), (17, ia wa), (18, ia fo), (19, lng dn), (20, ia ha), (21, ia pa), (22, ia bl), (157, dcl157 P Dn lw cl id gl bo), (158, lng pn), (159, ia ri), (160, ia lf), (161, ia wa), (162, ia fo), (163, lng dn), (164, ia ha), (165, ia pa), (166, ia bl)] = h1 at hcp G1 A1 hc0
  obtain ⟨⟨h20, h2⟩, f2, x2⟩ := co_run sypc_2220 (hp := h1) (ρ := [0]) (As := [.ref 23, .ref 167]) (en_full []) ⟨rfl, rfl, trivial⟩ (fun q hq => absurd hq List.not_mem_nil) G1
  have q2 := co_no (C := sypt_2220) (by decide +kernel) x2
  have q2 : h20 = none := q2
  subst q2
  obtain ⟨⟨h30, h3⟩, f3, x3⟩ := co_run sypc_2221 (hp := h2) (ρ := [0]) (As := [.ref 110, .ref 175]) (en_full []) ⟨rfl, rfl, trivial⟩ (fun q hq => absurd hq List.not_mem_nil) x2.2.1
  have q3 := co_no (C := sypt_2221) (by decide +kernel) x3
  have q3 : h30 = none := q3
  subst q3
  have G2 := x2.2.1
  have G3 := x3.2.1
  have A2 := x2.1
  have A3 := x3.1
  obtain ⟨an, li, ar, ar0, ar1⟩ := im_arr G
  obtain ⟨fi, oi, -⟩ := ob_at G (a := 156) (ct := gc156) rfl rfl
  obtain ⟨fb1, ob1, -⟩ := ob_at G (a := 13) (ct := gc13) rfl rfl
  obtain ⟨fb2, ob2, -⟩ := ob_at G1 (a := 23) (ct := gc23) rfl rfl
  obtain ⟨fb3, ob3, -⟩ := ob_at G2 (a := 110) (ct := gc110) rfl rfl
  obtain ⟨⟨h40, h4⟩, f4, x4⟩ := co_run sypc_49 (hp := h3) (ρ := [0]) (As := [.ref 39]) (en_full []) ⟨rfl, trivial⟩ (fun q hq => absurd hq List.not_mem_nil) G3
  have q5 := co_no (C := sypt_49) (by decide +kernel) x4
  have q5 : h40 = none := q5
  subst q5
  have A4 := x4.1
  have hk2 : FR 2 85 [.ref 156, .ref 13, .ref 23, .ref 110] hp (none, h3) := by
    refine FR_of rfl ?_
    refine rt_ald rfl rfl ?_
    refine rt_ald rfl rfl ?_
    refine rt_gf rfl (gfo G (ct := gc156) (y := 1) (r := 157) rfl rfl (by decide) rfl) ?_
    refine rt_ivP rfl rfl rfl ob1 rfl rfl (hcp.up (by decide)) ?_
    refine rt_ald rfl rfl ?_
    refine rt_ald rfl rfl ?_
    refine rt_gf rfl (gfo G1 (ct := gc156) (y := 2) (r := 167) rfl rfl (by decide) rfl) ?_
    refine rt_ivP rfl rfl rfl ob2 rfl rfl (f2.up (by decide)) ?_
    refine rt_ald rfl rfl ?_
    refine rt_ald rfl rfl ?_
    refine rt_gf rfl (gfo G2 (ct := gc156) (y := 3) (r := 175) rfl rfl (by decide) rfl) ?_
    refine rt_ivP rfl rfl rfl ob3 rfl rfl (f3.up (by decide)) ?_
    exact ow_ret rfl rfl rfl
  obtain ⟨fp3, op3, -⟩ := ob_at G3 (a := 39) (ct := gc39) rfl rfl
  have g05 : ev_gf h3 0 10 5 = some (.ref 39) := gfo G3 (ct := gc0) (y := 5) (r := 39) rfl rfl (by decide) rfl
  have kc : ∀ a, 13 ≤ a → a ≤ 22 → Ceq h1 h4 a := cas10 (m := 13) (kcf A2 A3 A4 (by decide +kernel) (by decide +kernel) (by decide +kernel)) (kcf A2 A3 A4 (by decide +kernel) (by decide +kernel) (by decide +kernel)) (kcf A2 A3 A4 (by decide +kernel) (by decide +kernel) (by decide +kernel)) (kcf A2 A3 A4 (by decide +kernel) (by decide +kernel) (by decide +kernel)) (kcf A2 A3 A4 (by decide +kernel) (by decide +kernel) (by decide +kernel)) (kcf A2 A3 A4 (by decide +kernel) (by decide +kernel) (by decide +kernel)) (kcf A2 A3 A4 (by decide +kernel) (by decide +kernel) (by decide +kernel)) (kcf A2 A3 A4 (by decide +kernel) (by decide +kernel) (by decide +kernel)) (kcf A2 A3 A4 (by decide +kernel) (by decide +kernel) (by decide +kernel)) (kcf A2 A3 A4 (by decide +kernel) (by decide +kernel) (by decide +kernel))
  obtain ⟨n0, n1, n2, n3, n4, n5, n6, n7, n8, n9⟩ := hc0
  refine ⟨P, Dn, lw, cl, id, gl, bo, pn, ri, lf, wa, fo, dn, ha, pa, bl, rd, rn, h4, ?_, ce_obj (kc 13 (by decide) (by decide)) n0, ce_lng (kc 14 (by decide) (by decide)) n1, ce_int (kc 15 (by decide) (by decide)) n2, ce_int (kc 16 (by decide) (by decide)) n3, ce_int (kc 17 (by decide) (by decide)) n4, ce_int (kc 18 (by decide) (by decide)) n5, ce_lng (kc 19 (by decide) (by decide)) n6, ce_int (kc 20 (by decide) (by decide)) n7, ce_int (kc 21 (by decide) (by decide)) n8, ce_int (kc 22 (by decide) (by decide)) n9, z1, z2, z3, z4, z5⟩
  refine FR_of rfl ?_
  refine rt_ild rfl rfl ?_
  refine RT_step rfl (fun _ _ => rfl) ?_
  refine RT_el (by decide) ?_
  refine rt_ild rfl rfl ?_
  refine rt_ald rfl rfl ?_
  refine rt_gf rfl (gf_lit (y := 12) e0 rfl) ?_
  refine rt_anP rfl an (by decide) ?_
  refine RT_step rfl (fun _ _ => rfl) ?_
  refine RT_el (by decide) ?_
  refine rt_ald rfl rfl ?_
  refine rt_gf rfl (gf_lit (y := 12) e0 rfl) ?_
  refine rt_ild rfl rfl ?_
  refine rt_aaP rfl ar ar1 (by decide) ?_
  refine rt_gf rfl (gf_of (n := 4) (G.1 156 gc156 rfl).1 hk) ?_
  refine RT_step rfl (fun _ _ => rfl) ?_
  refine RT_el (by decide) ?_
  refine rt_ald rfl rfl ?_
  refine rt_gf rfl (gf_lit (y := 12) e0 rfl) ?_
  refine rt_ild rfl rfl ?_
  refine rt_aaP rfl ar ar1 (by decide) ?_
  refine rt_ald rfl rfl ?_
  refine rt_gf rfl (gf_lit (y := 1) e0 rfl) ?_
  refine rt_ald rfl rfl ?_
  refine rt_gf rfl (gf_lit (y := 3) e0 rfl) ?_
  refine rt_ald rfl rfl ?_
  refine rt_gf rfl (gf_lit (y := 7) e0 rfl) ?_
  refine rt_ivP rfl rfl rfl oi rfl rfl hk2 ?_
  refine rt_ald rfl rfl ?_
  refine rt_gf rfl g05 ?_
  refine rt_ivP rfl rfl rfl op3 rfl rfl (f4.up (by decide)) ?_
  refine rt_ico rfl (show Int32.ofInt 1 = 1 from rfl) ?_
  exact rt_irt rfl rfl ⟨rfl, rfl⟩
theorem im1_13_115 {hp : List AE} (G : hp_ok GG hp) (hlen : Nat.ble 204 hp.length = true) (h0d : hq hp 0 1 = some (.ref 13)) (hse : hq hp 0 7 = some (.ref 115)) (hD : DH13 hp 182 0 187 0) : ∃ (P : Nat) (Dn : Nat) (lw : Int32) (cl : Int32) (id : Int32) (gl : Nat) (bo : Nat) (pn : List Int64) (ri : List Int32) (lf : List Int32) (wa : List Int32) (fo : List Int32) (dn : List Int64) (ha : List Int32) (pa : List Int32) (bl : List Int32) (rd : List Int32) (rn : List Int64), ∃ h9 : List AE, FR 3 25 [.ref 0, .int (Int32.ofNat 1)] hp (some (.int 1), h9) ∧ h9[157]? = some (dcl157 P Dn lw cl id gl bo) ∧ h9[158]? = some (lng pn) ∧ h9[159]? = some (ia ri) ∧ h9[160]? = some (ia lf) ∧ h9[161]? = some (ia wa) ∧ h9[162]? = some (ia fo) ∧ h9[163]? = some (lng dn) ∧ h9[164]? = some (ia ha) ∧ h9[165]? = some (ia pa) ∧ h9[166]? = some (ia bl) ∧ rd.length = 101 ∧ rn.length = 15 ∧ DF P Dn lw cl id gl bo pn ri lf wa fo dn ha pa bl rd rn ∧ (∀ j, j < 101 → hq hp 182 (0 + j) = (rd[j]?).map Value.int) ∧ (∀ j, j < 15 → hq hp 187 (0 + j) = (rn[j]?).map Value.long) := by
  obtain ⟨d, s, se, ss, lt, fb, tq, gb, e0, -, -, -, -⟩ := oc_0 G
  rw [hq_obj e0] at h0d hse
  have h0d : some (Value.ref d) = some (.ref 13) := h0d
  have hse : some (Value.ref se) = some (.ref 115) := hse
  obtain rfl := Value.ref.inj (Option.some.inj h0d)
  obtain rfl := Value.ref.inj (Option.some.inj hse)
  obtain ⟨P, Dn, lw, cl, id, gl, bo, pn, ri, lf, wa, fo, dn, ha, pa, bl, rd, rn, h0, h1, h2, h3, h4, h5, h6, h7, h8, h9, z1, z2, z3, z4, z5⟩ := hD
  obtain ⟨P2, Dn2, lw2, cl2, id2, gl2, bo2, eb, -, -⟩ := oc_157 G
  obtain ⟨pn2, -, m1, ca1⟩ := al_of (hp := hp) (a := 158) (t := 2) (n := 7) (G.1 158 gc158 rfl).1
  obtain ⟨ri2, -, m2, ca2⟩ := ai_of (hp := hp) (a := 159) (t := 1) (n := 7) (G.1 159 gc159 rfl).1
  obtain ⟨lf2, -, m3, ca3⟩ := ai_of (hp := hp) (a := 160) (t := 1) (n := 7) (G.1 160 gc160 rfl).1
  obtain ⟨wa2, -, m4, ca4⟩ := ai_of (hp := hp) (a := 161) (t := 1) (n := 7) (G.1 161 gc161 rfl).1
  obtain ⟨fo2, -, m5, ca5⟩ := ai_of (hp := hp) (a := 162) (t := 1) (n := 49) (G.1 162 gc162 rfl).1
  obtain ⟨dn2, -, m6, ca6⟩ := al_of (hp := hp) (a := 163) (t := 2) (n := 8) (G.1 163 gc163 rfl).1
  obtain ⟨ha2, -, m7, ca7⟩ := ai_of (hp := hp) (a := 164) (t := 1) (n := 8) (G.1 164 gc164 rfl).1
  obtain ⟨pa2, -, m8, ca8⟩ := ai_of (hp := hp) (a := 165) (t := 1) (n := 8) (G.1 165 gc165 rfl).1
  obtain ⟨bl2, -, m9, ca9⟩ := ai_of (hp := hp) (a := 166) (t := 1) (n := 8) (G.1 166 gc166 rfl).1
  have o1 : ov hp [(157, dcl157 P2 Dn2 lw2 cl2 id2 gl2 bo2), (158, lng pn2), (159, ia ri2), (160, ia lf2), (161, ia wa2), (162, ia fo2), (163, lng dn2), (164, ia ha2), (165, ia pa2), (166, ia bl2), (13, dcl13 P Dn lw cl id gl bo), (14, lng pn), (15, ia ri), (16, ia lf), (17, ia wa), (18, ia fo), (19, lng dn), (20, ia ha), (21, ia pa), (22, ia bl)] = hp := ov_id eb (ov_id ca1 (ov_id ca2 (ov_id ca3 (ov_id ca4 (ov_id ca5 (ov_id ca6 (ov_id ca7 (ov_id ca8 (ov_id ca9 (ov_id h0 (ov_id h1 (ov_id h2 (ov_id h3 (ov_id h4 (ov_id h5 (ov_id h6 (ov_id h7 (ov_id h8 (ov_c1 h9)))))))))))))))))))
  have hcp := x_copy157_13 (H := hp) hlen (P := P) (P2 := P2) (Dn := Dn) (Dn2 := Dn2) (lw := lw) (lw2 := lw2) (cl := cl) (cl2 := cl2) (id := id) (id2 := id2) (gl := gl) (gl2 := gl2) (bo := bo) (bo2 := bo2) z3.2.2.1 ⟨m1, m2, m3, m4, m5, m6, m7, m8, m9⟩
  rw [o1] at hcp
  obtain ⟨⟨w0, w⟩, fw, ew⟩ := co_run sypc_2515 (hp := hp) (ρ := [0]) (As := [.ref 157, .ref 13]) (en_full []) ⟨rfl, rfl, trivial⟩ (fun q hq => absurd hq List.not_mem_nil) G
  obtain ⟨-, q4⟩ := Prod.mk.inj (FR.det fw hcp)
  have G1 : hp_ok GG (ov hp [(157, dcl157 P Dn lw cl id gl bo), (158, lng pn), (159, ia ri), (160, ia lf), (161, ia wa), (162, ia fo), (163, lng dn), (164, ia ha), (165, ia pa), (166, ia bl), (13, dcl13 P Dn lw cl id gl bo), (14, lng pn), (15, ia ri), (16, ia lf), (17, ia wa), (18, ia fo), (19, lng dn), (20, ia ha), (21, ia pa), (22, ia bl)]) := q4 ▸ ew.2.1
  have A1 := ew.1
  rw [q4] at A1
  have hc0 : (ov hp [(157, dcl157 P Dn lw cl id gl bo), (158, lng pn), (159, ia ri), (160, ia lf), (161, ia wa), (162, ia fo), (163, lng dn), (164, ia ha), (165, ia pa), (166, ia bl), (13, dcl13 P Dn lw cl id gl bo), (14, lng pn), (15, ia ri), (16, ia lf), (17, ia wa), (18, ia fo), (19, lng dn), (20, ia ha), (21, ia pa), (22, ia bl)])[157]? = some (dcl157 P Dn lw cl id gl bo) ∧ (ov hp [(157, dcl157 P Dn lw cl id gl bo), (158, lng pn), (159, ia ri), (160, ia lf), (161, ia wa), (162, ia fo), (163, lng dn), (164, ia ha), (165, ia pa), (166, ia bl), (13, dcl13 P Dn lw cl id gl bo), (14, lng pn), (15, ia ri), (16, ia lf), (17, ia wa), (18, ia fo), (19, lng dn), (20, ia ha), (21, ia pa), (22, ia bl)])[158]? = some (lng pn) ∧ (ov hp [(157, dcl157 P Dn lw cl id gl bo), (158, lng pn), (159, ia ri), (160, ia lf), (161, ia wa), (162, ia fo), (163, lng dn), (164, ia ha), (165, ia pa), (166, ia bl), (13, dcl13 P Dn lw cl id gl bo), (14, lng pn), (15, ia ri), (16, ia lf), (17, ia wa), (18, ia fo), (19, lng dn), (20, ia ha), (21, ia pa), (22, ia bl)])[159]? = some (ia ri) ∧ (ov hp [(157, dcl157 P Dn lw cl id gl bo), (158, lng pn), (159, ia ri), (160, ia lf), (161, ia wa), (162, ia fo), (163, lng dn), (164, ia ha), (165, ia pa), (166, ia bl), (13, dcl13 P Dn lw cl id gl bo), (14, lng pn), (15, ia ri), (16, ia lf), (17, ia wa), (18, ia fo), (19, lng dn), (20, ia ha), (21, ia pa), (22, ia bl)])[160]? = some (ia lf) ∧ (ov hp [(157, dcl157 P Dn lw cl id gl bo), (158, lng pn), (159, ia ri), (160, ia lf), (161, ia wa), (162, ia fo), (163, lng dn), (164, ia ha), (165, ia pa), (166, ia bl), (13, dcl13 P Dn lw cl id gl bo), (14, lng pn), (15, ia ri), (16, ia lf), (17, ia wa), (18, ia fo), (19, lng dn), (20, ia ha), (21, ia pa), (22, ia bl)])[161]? = some (ia wa) ∧ (ov hp [(157, dcl157 P Dn lw cl id gl bo), (158, lng pn), (159, ia ri), (160, ia lf), (161, ia wa), (162, ia fo), (163, lng dn), (164, ia ha), (165, ia pa), (166, ia bl), (13, dcl13 P Dn lw cl id gl bo), (14, lng pn), (15, ia ri), (16, ia lf), (17, ia wa), (18, ia fo), (19, lng dn), (20, ia ha), (21, ia pa), (22, ia bl)])[162]? = some (ia fo) ∧ (ov hp [(157, dcl157 P Dn lw cl id gl bo), (158, lng pn), (159, ia ri), (160, ia lf), (161, ia wa), (162, ia fo), (163, lng dn), (164, ia ha), (165, ia pa), (166, ia bl), (13, dcl13 P Dn lw cl id gl bo), (14, lng pn), (15, ia ri), (16, ia lf), (17, ia wa), (18, ia fo), (19, lng dn), (20, ia ha), (21, ia pa), (22, ia bl)])[163]? = some (lng dn) ∧ (ov hp [(157, dcl157 P Dn lw cl id gl bo), (158, lng pn), (159, ia ri), (160, ia lf), (161, ia wa), (162, ia fo), (163, lng dn), (164, ia ha), (165, ia pa), (166, ia bl), (13, dcl13 P Dn lw cl id gl bo), (14, lng pn), (15, ia ri), (16, ia lf), (17, ia wa), (18, ia fo), (19, lng dn), (20, ia ha), (21, ia pa), (22, ia bl)])[164]? = some (ia ha) ∧ (ov hp [(157, dcl157 P Dn lw cl id gl bo), (158, lng pn), (159, ia ri), (160, ia lf), (161, ia wa), (162, ia fo), (163, lng dn), (164, ia ha), (165, ia pa), (166, ia bl), (13, dcl13 P Dn lw cl id gl bo), (14, lng pn), (15, ia ri), (16, ia lf), (17, ia wa), (18, ia fo), (19, lng dn), (20, ia ha), (21, ia pa), (22, ia bl)])[165]? = some (ia pa) ∧ (ov hp [(157, dcl157 P Dn lw cl id gl bo), (158, lng pn), (159, ia ri), (160, ia lf), (161, ia wa), (162, ia fo), (163, lng dn), (164, ia ha), (165, ia pa), (166, ia bl), (13, dcl13 P Dn lw cl id gl bo), (14, lng pn), (15, ia ri), (16, ia lf), (17, ia wa), (18, ia fo), (19, lng dn), (20, ia ha), (21, ia pa), (22, ia bl)])[166]? = some (ia bl) := ⟨ov_at rfl (ov_lt hlen (by decide)), ov_at rfl (ov_lt hlen (by decide)), ov_at rfl (ov_lt hlen (by decide)), ov_at rfl (ov_lt hlen (by decide)), ov_at rfl (ov_lt hlen (by decide)), ov_at rfl (ov_lt hlen (by decide)), ov_at rfl (ov_lt hlen (by decide)), ov_at rfl (ov_lt hlen (by decide)), ov_at rfl (ov_lt hlen (by decide)), ov_at rfl (ov_lt hlen (by decide))⟩
  generalize ov hp [(157, dcl157 P Dn lw cl id gl bo), (158, lng pn), (159, ia ri), (160, ia lf), (161, ia wa), (162, ia fo), (163, lng dn), (164, ia ha), (165, ia pa), (166, ia bl), (13, dcl13 P Dn lw cl id gl bo), (14, lng pn), (15, ia ri), (16, ia lf), (17, ia wa), (18, ia fo), (19, lng dn), (20, ia ha), (21, ia pa), (22, ia bl)] = h1 at hcp G1 A1 hc0
  obtain ⟨⟨h20, h2⟩, f2, x2⟩ := co_run sypc_2211 (hp := h1) (ρ := [0]) (As := [.ref 167, .ref 23]) (en_full []) ⟨rfl, rfl, trivial⟩ (fun q hq => absurd hq List.not_mem_nil) G1
  have q2 := co_no (C := sypt_2211) (by decide +kernel) x2
  have q2 : h20 = none := q2
  subst q2
  obtain ⟨⟨h30, h3⟩, f3, x3⟩ := co_run sypc_2516 (hp := h2) (ρ := [0]) (As := [.ref 175, .ref 115]) (en_full []) ⟨rfl, rfl, trivial⟩ (fun q hq => absurd hq List.not_mem_nil) x2.2.1
  have q3 := co_no (C := sypt_2516) (by decide +kernel) x3
  have q3 : h30 = none := q3
  subst q3
  have G2 := x2.2.1
  have G3 := x3.2.1
  have A2 := x2.1
  have A3 := x3.1
  obtain ⟨an, li, ar, ar0, ar1⟩ := im_arr G
  obtain ⟨fi, oi, -⟩ := ob_at G (a := 156) (ct := gc156) rfl rfl
  obtain ⟨fs, i1, i2⟩ := ob_at G3 (a := 156) (ct := gc156) rfl rfl
  obtain ⟨fb1, ob1, -⟩ := ob_at G (a := 157) (ct := gc157) rfl rfl
  obtain ⟨fb2, ob2, -⟩ := ob_at G1 (a := 167) (ct := gc167) rfl rfl
  obtain ⟨fb3, ob3, -⟩ := ob_at G2 (a := 175) (ct := gc175) rfl rfl
  have hk : FR 2 86 [.ref 156, .ref 13, .ref 23, .ref 115] hp (none, (h3.set 156 (.inr (2, fs.set 0 (.int 1))))) := by
    refine FR_of rfl ?_
    refine rt_ald rfl rfl ?_
    refine rt_gf rfl (gfo G (ct := gc156) (y := 1) (r := 157) rfl rfl (by decide) rfl) ?_
    refine rt_ald rfl rfl ?_
    refine rt_ivP rfl rfl rfl ob1 rfl rfl (hcp.up (by decide)) ?_
    refine rt_ald rfl rfl ?_
    refine rt_gf rfl (gfo G1 (ct := gc156) (y := 2) (r := 167) rfl rfl (by decide) rfl) ?_
    refine rt_ald rfl rfl ?_
    refine rt_ivP rfl rfl rfl ob2 rfl rfl (f2.up (by decide)) ?_
    refine rt_ald rfl rfl ?_
    refine rt_gf rfl (gfo G2 (ct := gc156) (y := 3) (r := 175) rfl rfl (by decide) rfl) ?_
    refine rt_ald rfl rfl ?_
    refine rt_ivP rfl rfl rfl ob3 rfl rfl (f3.up (by decide)) ?_
    refine rt_ald rfl rfl ?_
    refine rt_ico rfl (show Int32.ofInt 1 = 1 from rfl) ?_
    refine rt_put rfl i1 rfl (by omega) (by decide +kernel) ?_
    exact ow_ret rfl rfl rfl
  have u := upd_f (v := .int 1) i1 (show 0 < fs.length by omega)
  have kc : ∀ a, 157 ≤ a → a ≤ 166 → Ceq h1 (h3.set 156 (.inr (2, fs.set 0 (.int 1)))) a := cas10 (m := 157) (kce A2 A3 u (by decide +kernel) (by decide +kernel) (by decide)) (kce A2 A3 u (by decide +kernel) (by decide +kernel) (by decide)) (kce A2 A3 u (by decide +kernel) (by decide +kernel) (by decide)) (kce A2 A3 u (by decide +kernel) (by decide +kernel) (by decide)) (kce A2 A3 u (by decide +kernel) (by decide +kernel) (by decide)) (kce A2 A3 u (by decide +kernel) (by decide +kernel) (by decide)) (kce A2 A3 u (by decide +kernel) (by decide +kernel) (by decide)) (kce A2 A3 u (by decide +kernel) (by decide +kernel) (by decide)) (kce A2 A3 u (by decide +kernel) (by decide +kernel) (by decide)) (kce A2 A3 u (by decide +kernel) (by decide +kernel) (by decide))
  obtain ⟨n0, n1, n2, n3, n4, n5, n6, n7, n8, n9⟩ := hc0
  refine ⟨P, Dn, lw, cl, id, gl, bo, pn, ri, lf, wa, fo, dn, ha, pa, bl, rd, rn, (h3.set 156 (.inr (2, fs.set 0 (.int 1)))), ?_, ce_obj (kc 157 (by decide) (by decide)) n0, ce_lng (kc 158 (by decide) (by decide)) n1, ce_int (kc 159 (by decide) (by decide)) n2, ce_int (kc 160 (by decide) (by decide)) n3, ce_int (kc 161 (by decide) (by decide)) n4, ce_int (kc 162 (by decide) (by decide)) n5, ce_lng (kc 163 (by decide) (by decide)) n6, ce_int (kc 164 (by decide) (by decide)) n7, ce_int (kc 165 (by decide) (by decide)) n8, ce_int (kc 166 (by decide) (by decide)) n9, z1, z2, z3, z4, z5⟩
  refine FR_of rfl ?_
  refine rt_ild rfl rfl ?_
  refine RT_step rfl (fun _ _ => rfl) ?_
  refine RT_el (by decide) ?_
  refine rt_ild rfl rfl ?_
  refine rt_ald rfl rfl ?_
  refine rt_gf rfl (gf_lit (y := 12) e0 rfl) ?_
  refine rt_anP rfl an (by decide) ?_
  refine RT_step rfl (fun _ _ => rfl) ?_
  refine RT_if (by decide) ?_
  refine rt_ald rfl rfl ?_
  refine rt_gf rfl (gf_lit (y := 12) e0 rfl) ?_
  refine rt_ild rfl rfl ?_
  refine rt_aaP rfl ar ar1 (by decide) ?_
  refine rt_ald rfl rfl ?_
  refine rt_gf rfl (gf_lit (y := 1) e0 rfl) ?_
  refine rt_ald rfl rfl ?_
  refine rt_gf rfl (gf_lit (y := 3) e0 rfl) ?_
  refine rt_ald rfl rfl ?_
  refine rt_gf rfl (gf_lit (y := 7) e0 rfl) ?_
  refine rt_ivP rfl rfl rfl oi rfl rfl hk ?_
  refine rt_ico rfl (show Int32.ofInt 1 = 1 from rfl) ?_
  exact rt_irt rfl rfl ⟨rfl, rfl⟩
theorem re1_13_115 {hp : List AE} (G : hp_ok GG hp) (hlen : Nat.ble 204 hp.length = true) (h0d : hq hp 0 1 = some (.ref 13)) (hse : hq hp 0 7 = some (.ref 115)) (hk : hq hp 156 0 = some (.int 1)) (hD : DH157 hp 184 396 189 15) : ∃ (P : Nat) (Dn : Nat) (lw : Int32) (cl : Int32) (id : Int32) (gl : Nat) (bo : Nat) (pn : List Int64) (ri : List Int32) (lf : List Int32) (wa : List Int32) (fo : List Int32) (dn : List Int64) (ha : List Int32) (pa : List Int32) (bl : List Int32) (rd : List Int32) (rn : List Int64), ∃ h9 : List AE, FR 3 35 [.ref 0, .int (Int32.ofNat 1)] hp (some (.int 1), h9) ∧ h9[13]? = some (dcl13 P Dn lw cl id gl bo) ∧ h9[14]? = some (lng pn) ∧ h9[15]? = some (ia ri) ∧ h9[16]? = some (ia lf) ∧ h9[17]? = some (ia wa) ∧ h9[18]? = some (ia fo) ∧ h9[19]? = some (lng dn) ∧ h9[20]? = some (ia ha) ∧ h9[21]? = some (ia pa) ∧ h9[22]? = some (ia bl) ∧ rd.length = 101 ∧ rn.length = 15 ∧ DF P Dn lw cl id gl bo pn ri lf wa fo dn ha pa bl rd rn ∧ (∀ j, j < 101 → hq hp 184 (396 + j) = (rd[j]?).map Value.int) ∧ (∀ j, j < 15 → hq hp 189 (15 + j) = (rn[j]?).map Value.long) := by
  obtain ⟨d, s, se, ss, lt, fb, tq, gb, e0, -, -, -, -⟩ := oc_0 G
  rw [hq_obj e0] at h0d hse
  have h0d : some (Value.ref d) = some (.ref 13) := h0d
  have hse : some (Value.ref se) = some (.ref 115) := hse
  obtain rfl := Value.ref.inj (Option.some.inj h0d)
  obtain rfl := Value.ref.inj (Option.some.inj hse)
  obtain ⟨P, Dn, lw, cl, id, gl, bo, pn, ri, lf, wa, fo, dn, ha, pa, bl, rd, rn, h0, h1, h2, h3, h4, h5, h6, h7, h8, h9, z1, z2, z3, z4, z5⟩ := hD
  obtain ⟨P2, Dn2, lw2, cl2, id2, gl2, bo2, eb, -, -⟩ := oc_13 G
  obtain ⟨pn2, -, m1, ca1⟩ := al_of (hp := hp) (a := 14) (t := 2) (n := 7) (G.1 14 gc14 rfl).1
  obtain ⟨ri2, -, m2, ca2⟩ := ai_of (hp := hp) (a := 15) (t := 1) (n := 7) (G.1 15 gc15 rfl).1
  obtain ⟨lf2, -, m3, ca3⟩ := ai_of (hp := hp) (a := 16) (t := 1) (n := 7) (G.1 16 gc16 rfl).1
  obtain ⟨wa2, -, m4, ca4⟩ := ai_of (hp := hp) (a := 17) (t := 1) (n := 7) (G.1 17 gc17 rfl).1
  obtain ⟨fo2, -, m5, ca5⟩ := ai_of (hp := hp) (a := 18) (t := 1) (n := 49) (G.1 18 gc18 rfl).1
  obtain ⟨dn2, -, m6, ca6⟩ := al_of (hp := hp) (a := 19) (t := 2) (n := 8) (G.1 19 gc19 rfl).1
  obtain ⟨ha2, -, m7, ca7⟩ := ai_of (hp := hp) (a := 20) (t := 1) (n := 8) (G.1 20 gc20 rfl).1
  obtain ⟨pa2, -, m8, ca8⟩ := ai_of (hp := hp) (a := 21) (t := 1) (n := 8) (G.1 21 gc21 rfl).1
  obtain ⟨bl2, -, m9, ca9⟩ := ai_of (hp := hp) (a := 22) (t := 1) (n := 8) (G.1 22 gc22 rfl).1
  have o1 : ov hp [(13, dcl13 P2 Dn2 lw2 cl2 id2 gl2 bo2), (14, lng pn2), (15, ia ri2), (16, ia lf2), (17, ia wa2), (18, ia fo2), (19, lng dn2), (20, ia ha2), (21, ia pa2), (22, ia bl2), (157, dcl157 P Dn lw cl id gl bo), (158, lng pn), (159, ia ri), (160, ia lf), (161, ia wa), (162, ia fo), (163, lng dn), (164, ia ha), (165, ia pa), (166, ia bl)] = hp := ov_id eb (ov_id ca1 (ov_id ca2 (ov_id ca3 (ov_id ca4 (ov_id ca5 (ov_id ca6 (ov_id ca7 (ov_id ca8 (ov_id ca9 (ov_id h0 (ov_id h1 (ov_id h2 (ov_id h3 (ov_id h4 (ov_id h5 (ov_id h6 (ov_id h7 (ov_id h8 (ov_c1 h9)))))))))))))))))))
  have hcp := x_copy13_157 (H := hp) hlen (P := P) (P2 := P2) (Dn := Dn) (Dn2 := Dn2) (lw := lw) (lw2 := lw2) (cl := cl) (cl2 := cl2) (id := id) (id2 := id2) (gl := gl) (gl2 := gl2) (bo := bo) (bo2 := bo2) z3.2.2.1 ⟨m1, m2, m3, m4, m5, m6, m7, m8, m9⟩
  rw [o1] at hcp
  obtain ⟨⟨w0, w⟩, fw, ew⟩ := co_run sypc_2526 (hp := hp) (ρ := [0]) (As := [.ref 13, .ref 157]) (en_full []) ⟨rfl, rfl, trivial⟩ (fun q hq => absurd hq List.not_mem_nil) G
  obtain ⟨-, q4⟩ := Prod.mk.inj (FR.det fw hcp)
  have G1 : hp_ok GG (ov hp [(13, dcl13 P Dn lw cl id gl bo), (14, lng pn), (15, ia ri), (16, ia lf), (17, ia wa), (18, ia fo), (19, lng dn), (20, ia ha), (21, ia pa), (22, ia bl), (157, dcl157 P Dn lw cl id gl bo), (158, lng pn), (159, ia ri), (160, ia lf), (161, ia wa), (162, ia fo), (163, lng dn), (164, ia ha), (165, ia pa), (166, ia bl)]) := q4 ▸ ew.2.1
  have A1 := ew.1
  rw [q4] at A1
  have hc0 : (ov hp [(13, dcl13 P Dn lw cl id gl bo), (14, lng pn), (15, ia ri), (16, ia lf), (17, ia wa), (18, ia fo), (19, lng dn), (20, ia ha), (21, ia pa), (22, ia bl), (157, dcl157 P Dn lw cl id gl bo), (158, lng pn), (159, ia ri), (160, ia lf), (161, ia wa), (162, ia fo), (163, lng dn), (164, ia ha), (165, ia pa), (166, ia bl)])[13]? = some (dcl13 P Dn lw cl id gl bo) ∧ (ov hp [(13, dcl13 P Dn lw cl id gl bo), (14, lng pn), (15, ia ri), (16, ia lf), (17, ia wa), (18, ia fo), (19, lng dn), (20, ia ha), (21, ia pa), (22, ia bl), (157, dcl157 P Dn lw cl id gl bo), (158, lng pn), (159, ia ri), (160, ia lf), (161, ia wa), (162, ia fo), (163, lng dn), (164, ia ha), (165, ia pa), (166, ia bl)])[14]? = some (lng pn) ∧ (ov hp [(13, dcl13 P Dn lw cl id gl bo), (14, lng pn), (15, ia ri), (16, ia lf), (17, ia wa), (18, ia fo), (19, lng dn), (20, ia ha), (21, ia pa), (22, ia bl), (157, dcl157 P Dn lw cl id gl bo), (158, lng pn), (159, ia ri), (160, ia lf), (161, ia wa), (162, ia fo), (163, lng dn), (164, ia ha), (165, ia pa), (166, ia bl)])[15]? = some (ia ri) ∧ (ov hp [(13, dcl13 P Dn lw cl id gl bo), (14, lng pn), (15, ia ri), (16, ia lf), (17, ia wa), (18, ia fo), (19, lng dn), (20, ia ha), (21, ia pa), (22, ia bl), (157, dcl157 P Dn lw cl id gl bo), (158, lng pn), (159, ia ri), (160, ia lf), (161, ia wa), (162, ia fo), (163, lng dn), (164, ia ha), (165, ia pa), (166, ia bl)])[16]? = some (ia lf) ∧ (ov hp [(13, dcl13 P Dn lw cl id gl bo), (14, lng pn), (15, ia ri), (16, ia lf), (17, ia wa), (18, ia fo), (19, lng dn), (20, ia ha), (21, ia pa), (22, ia bl), (157, dcl157 P Dn lw cl id gl bo), (158, lng pn), (159, ia ri), (160, ia lf), (161, ia wa), (162, ia fo), (163, lng dn), (164, ia ha), (165, ia pa), (166, ia bl)])[17]? = some (ia wa) ∧ (ov hp [(13, dcl13 P Dn lw cl id gl bo), (14, lng pn), (15, ia ri), (16, ia lf), (17, ia wa), (18, ia fo), (19, lng dn), (20, ia ha), (21, ia pa), (22, ia bl), (157, dcl157 P Dn lw cl id gl bo), (158, lng pn), (159, ia ri), (160, ia lf), (161, ia wa), (162, ia fo), (163, lng dn), (164, ia ha), (165, ia pa), (166, ia bl)])[18]? = some (ia fo) ∧ (ov hp [(13, dcl13 P Dn lw cl id gl bo), (14, lng pn), (15, ia ri), (16, ia lf), (17, ia wa), (18, ia fo), (19, lng dn), (20, ia ha), (21, ia pa), (22, ia bl), (157, dcl157 P Dn lw cl id gl bo), (158, lng pn), (159, ia ri), (160, ia lf), (161, ia wa), (162, ia fo), (163, lng dn), (164, ia ha), (165, ia pa), (166, ia bl)])[19]? = some (lng dn) ∧ (ov hp [(13, dcl13 P Dn lw cl id gl bo), (14, lng pn), (15, ia ri), (16, ia lf), (17, ia wa), (18, ia fo), (19, lng dn), (20, ia ha), (21, ia pa), (22, ia bl), (157, dcl157 P Dn lw cl id gl bo), (158, lng pn), (159, ia ri), (160, ia lf), (161, ia wa), (162, ia fo), (163, lng dn), (164, ia ha), (165, ia pa), (166, ia bl)])[20]? = some (ia ha) ∧ (ov hp [(13, dcl13 P Dn lw cl id gl bo), (14, lng pn), (15, ia ri), (16, ia lf), (17, ia wa), (18, ia fo), (19, lng dn), (20, ia ha), (21, ia pa), (22, ia bl), (157, dcl157 P Dn lw cl id gl bo), (158, lng pn), (159, ia ri), (160, ia lf), (161, ia wa), (162, ia fo), (163, lng dn), (164, ia ha), (165, ia pa), (166, ia bl)])[21]? = some (ia pa) ∧ (ov hp [(13, dcl13 P Dn lw cl id gl bo), (14, lng pn), (15, ia ri), (16, ia lf), (17, ia wa), (18, ia fo), (19, lng dn), (20, ia ha), (21, ia pa), (22, ia bl), (157, dcl157 P Dn lw cl id gl bo), (158, lng pn), (159, ia ri), (160, ia lf), (161, ia wa), (162, ia fo), (163, lng dn), (164, ia ha), (165, ia pa), (166, ia bl)])[22]? = some (ia bl) := ⟨ov_at rfl (ov_lt hlen (by decide)), ov_at rfl (ov_lt hlen (by decide)), ov_at rfl (ov_lt hlen (by decide)), ov_at rfl (ov_lt hlen (by decide)), ov_at rfl (ov_lt hlen (by decide)), ov_at rfl (ov_lt hlen (by decide)), ov_at rfl (ov_lt hlen (by decide)), ov_at rfl (ov_lt hlen (by decide)), ov_at rfl (ov_lt hlen (by decide)), ov_at rfl (ov_lt hlen (by decide))⟩
  generalize ov hp [(13, dcl13 P Dn lw cl id gl bo), (14, lng pn), (15, ia ri), (16, ia lf), (17, ia wa), (18, ia fo), (19, lng dn), (20, ia ha), (21, ia pa), (22, ia bl), (157, dcl157 P Dn lw cl id gl bo), (158, lng pn), (159, ia ri), (160, ia lf), (161, ia wa), (162, ia fo), (163, lng dn), (164, ia ha), (165, ia pa), (166, ia bl)] = h1 at hcp G1 A1 hc0
  obtain ⟨⟨h20, h2⟩, f2, x2⟩ := co_run sypc_2220 (hp := h1) (ρ := [0]) (As := [.ref 23, .ref 167]) (en_full []) ⟨rfl, rfl, trivial⟩ (fun q hq => absurd hq List.not_mem_nil) G1
  have q2 := co_no (C := sypt_2220) (by decide +kernel) x2
  have q2 : h20 = none := q2
  subst q2
  obtain ⟨⟨h30, h3⟩, f3, x3⟩ := co_run sypc_2527 (hp := h2) (ρ := [0]) (As := [.ref 115, .ref 175]) (en_full []) ⟨rfl, rfl, trivial⟩ (fun q hq => absurd hq List.not_mem_nil) x2.2.1
  have q3 := co_no (C := sypt_2527) (by decide +kernel) x3
  have q3 : h30 = none := q3
  subst q3
  have G2 := x2.2.1
  have G3 := x3.2.1
  have A2 := x2.1
  have A3 := x3.1
  obtain ⟨an, li, ar, ar0, ar1⟩ := im_arr G
  obtain ⟨fi, oi, -⟩ := ob_at G (a := 156) (ct := gc156) rfl rfl
  obtain ⟨fb1, ob1, -⟩ := ob_at G (a := 13) (ct := gc13) rfl rfl
  obtain ⟨fb2, ob2, -⟩ := ob_at G1 (a := 23) (ct := gc23) rfl rfl
  obtain ⟨fb3, ob3, -⟩ := ob_at G2 (a := 115) (ct := gc115) rfl rfl
  obtain ⟨⟨h40, h4⟩, f4, x4⟩ := co_run sypc_49 (hp := h3) (ρ := [0]) (As := [.ref 39]) (en_full []) ⟨rfl, trivial⟩ (fun q hq => absurd hq List.not_mem_nil) G3
  have q5 := co_no (C := sypt_49) (by decide +kernel) x4
  have q5 : h40 = none := q5
  subst q5
  have A4 := x4.1
  have hk2 : FR 2 85 [.ref 156, .ref 13, .ref 23, .ref 115] hp (none, h3) := by
    refine FR_of rfl ?_
    refine rt_ald rfl rfl ?_
    refine rt_ald rfl rfl ?_
    refine rt_gf rfl (gfo G (ct := gc156) (y := 1) (r := 157) rfl rfl (by decide) rfl) ?_
    refine rt_ivP rfl rfl rfl ob1 rfl rfl (hcp.up (by decide)) ?_
    refine rt_ald rfl rfl ?_
    refine rt_ald rfl rfl ?_
    refine rt_gf rfl (gfo G1 (ct := gc156) (y := 2) (r := 167) rfl rfl (by decide) rfl) ?_
    refine rt_ivP rfl rfl rfl ob2 rfl rfl (f2.up (by decide)) ?_
    refine rt_ald rfl rfl ?_
    refine rt_ald rfl rfl ?_
    refine rt_gf rfl (gfo G2 (ct := gc156) (y := 3) (r := 175) rfl rfl (by decide) rfl) ?_
    refine rt_ivP rfl rfl rfl ob3 rfl rfl (f3.up (by decide)) ?_
    exact ow_ret rfl rfl rfl
  obtain ⟨fp3, op3, -⟩ := ob_at G3 (a := 39) (ct := gc39) rfl rfl
  have g05 : ev_gf h3 0 10 5 = some (.ref 39) := gfo G3 (ct := gc0) (y := 5) (r := 39) rfl rfl (by decide) rfl
  have kc : ∀ a, 13 ≤ a → a ≤ 22 → Ceq h1 h4 a := cas10 (m := 13) (kcf A2 A3 A4 (by decide +kernel) (by decide +kernel) (by decide +kernel)) (kcf A2 A3 A4 (by decide +kernel) (by decide +kernel) (by decide +kernel)) (kcf A2 A3 A4 (by decide +kernel) (by decide +kernel) (by decide +kernel)) (kcf A2 A3 A4 (by decide +kernel) (by decide +kernel) (by decide +kernel)) (kcf A2 A3 A4 (by decide +kernel) (by decide +kernel) (by decide +kernel)) (kcf A2 A3 A4 (by decide +kernel) (by decide +kernel) (by decide +kernel)) (kcf A2 A3 A4 (by decide +kernel) (by decide +kernel) (by decide +kernel)) (kcf A2 A3 A4 (by decide +kernel) (by decide +kernel) (by decide +kernel)) (kcf A2 A3 A4 (by decide +kernel) (by decide +kernel) (by decide +kernel)) (kcf A2 A3 A4 (by decide +kernel) (by decide +kernel) (by decide +kernel))
  obtain ⟨n0, n1, n2, n3, n4, n5, n6, n7, n8, n9⟩ := hc0
  refine ⟨P, Dn, lw, cl, id, gl, bo, pn, ri, lf, wa, fo, dn, ha, pa, bl, rd, rn, h4, ?_, ce_obj (kc 13 (by decide) (by decide)) n0, ce_lng (kc 14 (by decide) (by decide)) n1, ce_int (kc 15 (by decide) (by decide)) n2, ce_int (kc 16 (by decide) (by decide)) n3, ce_int (kc 17 (by decide) (by decide)) n4, ce_int (kc 18 (by decide) (by decide)) n5, ce_lng (kc 19 (by decide) (by decide)) n6, ce_int (kc 20 (by decide) (by decide)) n7, ce_int (kc 21 (by decide) (by decide)) n8, ce_int (kc 22 (by decide) (by decide)) n9, z1, z2, z3, z4, z5⟩
  refine FR_of rfl ?_
  refine rt_ild rfl rfl ?_
  refine RT_step rfl (fun _ _ => rfl) ?_
  refine RT_el (by decide) ?_
  refine rt_ild rfl rfl ?_
  refine rt_ald rfl rfl ?_
  refine rt_gf rfl (gf_lit (y := 12) e0 rfl) ?_
  refine rt_anP rfl an (by decide) ?_
  refine RT_step rfl (fun _ _ => rfl) ?_
  refine RT_el (by decide) ?_
  refine rt_ald rfl rfl ?_
  refine rt_gf rfl (gf_lit (y := 12) e0 rfl) ?_
  refine rt_ild rfl rfl ?_
  refine rt_aaP rfl ar ar1 (by decide) ?_
  refine rt_gf rfl (gf_of (n := 4) (G.1 156 gc156 rfl).1 hk) ?_
  refine RT_step rfl (fun _ _ => rfl) ?_
  refine RT_el (by decide) ?_
  refine rt_ald rfl rfl ?_
  refine rt_gf rfl (gf_lit (y := 12) e0 rfl) ?_
  refine rt_ild rfl rfl ?_
  refine rt_aaP rfl ar ar1 (by decide) ?_
  refine rt_ald rfl rfl ?_
  refine rt_gf rfl (gf_lit (y := 1) e0 rfl) ?_
  refine rt_ald rfl rfl ?_
  refine rt_gf rfl (gf_lit (y := 3) e0 rfl) ?_
  refine rt_ald rfl rfl ?_
  refine rt_gf rfl (gf_lit (y := 7) e0 rfl) ?_
  refine rt_ivP rfl rfl rfl oi rfl rfl hk2 ?_
  refine rt_ald rfl rfl ?_
  refine rt_gf rfl g05 ?_
  refine rt_ivP rfl rfl rfl op3 rfl rfl (f4.up (by decide)) ?_
  refine rt_ico rfl (show Int32.ofInt 1 = 1 from rfl) ?_
  exact rt_irt rfl rfl ⟨rfl, rfl⟩
end
