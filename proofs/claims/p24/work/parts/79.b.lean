/-! ===== duchy keeps the relation, and both answer the same ===== -/
theorem FR_at {k mi : Nat} {As : List Value} {H : List AE} {v : Option Value} {l r : List (Nat × AE)} (e : ov H l = H) (h : FR k mi As (ov H l) (v, ov (ov H l) r)) : FR k mi As H (v, ov H r) := by
  rw [e] at h
  exact h
theorem ov_qa {hp hc : List AE} {l : List (Nat × AE)} {a : Nat} {c : AE} (q : hc = ov hp l) (h : olk l a = some c) (hl : Nat.ble 204 hp.length = true) (ha : Nat.blt a 204 = true) : hc[a]? = some c := by
  rw [q]
  exact ov_at h (Nat.lt_of_lt_of_le (Nat.le_of_ble_eq_true ha) (Nat.le_of_ble_eq_true hl))
theorem ov_q {hp hc : List AE} {l : List (Nat × AE)} {a : Nat} {c : AE} (q : hc = ov hp l) (h : hp[a]? = some c) (hn : olk l a = none) : hc[a]? = some c := by
  rw [q, ov_no hn]
  exact h
theorem vi_inj {a b : Int32} {h h2 : List AE} (e : ((some (.int a), h) : ev_R) = (some (.int b), h2)) : a = b ∧ h = h2 := ⟨Value.int.inj (Option.some.inj (Prod.mk.inj e).1), (Prod.mk.inj e).2⟩
theorem cas10 {Q : Nat → Prop} {m : Nat} (h0 : Q m) (h1 : Q (m + 1)) (h2 : Q (m + 2)) (h3 : Q (m + 3)) (h4 : Q (m + 4)) (h5 : Q (m + 5)) (h6 : Q (m + 6)) (h7 : Q (m + 7)) (h8 : Q (m + 8)) (h9 : Q (m + 9)) : ∀ a, m ≤ a → a ≤ m + 9 → Q a := by
  intro a x y
  rcases (show a = m ∨ a = m + 1 ∨ a = m + 2 ∨ a = m + 3 ∨ a = m + 4 ∨ a = m + 5 ∨ a = m + 6 ∨ a = m + 7 ∨ a = m + 8 ∨ a = m + 9 by omega) with rfl | rfl | rfl | rfl | rfl | rfl | rfl | rfl | rfl | rfl <;> assumption
theorem ddu13_110 {hp hc hd : List AE} {r r2 : Int32} {k1 k2 : Nat} (G : hp_ok GG hp) (hlen : Nat.ble 204 hp.length = true) (hT : TPH hp) (hz : ∃ z : Int32, hq hp 1 1 = some (.int z) ∧ hq hp 180 2 = some (.int z)) (h0d : hq hp 0 1 = some (.ref 3)) (h0s : hq hp 0 2 = some (.ref 13)) (hse : hq hp 0 7 = some (.ref 110)) (hD : DH3 hp 182 0 187 0) (f1 : FR k1 14 [.ref 0] hp (some (.int r), hc)) (f2 : FR k2 195 [.ref 180] hc (some (.int r2), hd)) : r2 = r ∧ TPH hd ∧ CUR hd ∧ FLT hd := by
  obtain ⟨d, s, se, ss, lt, fb, tq, gb, e0, hd0, hs0, hse0, hss0⟩ := oc_0 G
  obtain ⟨n, lim, a, kd, pl, w, le, nu, tk, fa, fp, e1, hn, hw⟩ := oc_1 G
  obtain ⟨bs, ts, e2, e181, tp⟩ := hT
  obtain ⟨p0, n2, sz, lim2, am, fr, kd2, nu2, sg, fa2, pl2, wd, td, sm, pr, e180, hn2⟩ := oc_180 G
  obtain rfl : n = n2 := by
    obtain ⟨z, z1, z2⟩ := hz
    rw [hq_obj e1] at z1
    rw [hq_obj e180] at z2
    have y1 : some (Value.int (Int32.ofNat n)) = some (.int z) := z1
    have y2 : some (Value.int (Int32.ofNat n2)) = some (.int z) := z2
    have e := congrArg Int32.toInt (Value.int.inj (Option.some.inj (y1.trans y2.symm)))
    rw [n_int (by omega), n_int (by omega)] at e
    omega
  rw [hq_obj e0] at h0d h0s hse
  have h0d : some (Value.ref d) = some (.ref 3) := h0d
  have h0s : some (Value.ref s) = some (.ref 13) := h0s
  have hse : some (Value.ref se) = some (.ref 110) := hse
  obtain rfl := Value.ref.inj (Option.some.inj h0d)
  obtain rfl := Value.ref.inj (Option.some.inj h0s)
  obtain rfl := Value.ref.inj (Option.some.inj hse)
  obtain ⟨P, Dn, lw, cl, id, gl, bo, eb, hP, hDn⟩ := oc_13 G
  obtain ⟨pn, -, la1, ca1⟩ := al_of (hp := hp) (a := 14) (t := 2) (n := 7) (G.1 14 gc14 rfl).1
  obtain ⟨ri, -, la2, ca2⟩ := ai_of (hp := hp) (a := 15) (t := 1) (n := 7) (G.1 15 gc15 rfl).1
  obtain ⟨lf, -, la3, ca3⟩ := ai_of (hp := hp) (a := 16) (t := 1) (n := 7) (G.1 16 gc16 rfl).1
  obtain ⟨wa, -, la4, ca4⟩ := ai_of (hp := hp) (a := 17) (t := 1) (n := 7) (G.1 17 gc17 rfl).1
  obtain ⟨fo, -, la5, ca5⟩ := ai_of (hp := hp) (a := 18) (t := 1) (n := 49) (G.1 18 gc18 rfl).1
  obtain ⟨dn, -, la6, ca6⟩ := al_of (hp := hp) (a := 19) (t := 2) (n := 8) (G.1 19 gc19 rfl).1
  obtain ⟨ha, -, la7, ca7⟩ := ai_of (hp := hp) (a := 20) (t := 1) (n := 8) (G.1 20 gc20 rfl).1
  obtain ⟨pa, -, la8, ca8⟩ := ai_of (hp := hp) (a := 21) (t := 1) (n := 8) (G.1 21 gc21 rfl).1
  obtain ⟨bl, -, la9, ca9⟩ := ai_of (hp := hp) (a := 22) (t := 1) (n := 8) (G.1 22 gc22 rfl).1
  obtain ⟨c0, c1, c2, c3, c4, e23⟩ := oc_23 G
  obtain ⟨a1, -, k1, y1⟩ := ai_of (hp := hp) (a := 24) (t := 1) (n := 7) (G.1 24 gc24 rfl).1
  obtain ⟨a2, -, k2, y2⟩ := ai_of (hp := hp) (a := 25) (t := 1) (n := 7) (G.1 25 gc25 rfl).1
  obtain ⟨a3, -, k3, y3⟩ := ai_of (hp := hp) (a := 26) (t := 1) (n := 7) (G.1 26 gc26 rfl).1
  obtain ⟨a4, -, k4, y4⟩ := ai_of (hp := hp) (a := 27) (t := 1) (n := 7) (G.1 27 gc27 rfl).1
  obtain ⟨a5, -, k5, y5⟩ := ai_of (hp := hp) (a := 28) (t := 1) (n := 7) (G.1 28 gc28 rfl).1
  obtain ⟨a6, -, k6, y6⟩ := ai_of (hp := hp) (a := 29) (t := 1) (n := 7) (G.1 29 gc29 rfl).1
  obtain ⟨a7, -, k7, y7⟩ := ai_of (hp := hp) (a := 30) (t := 1) (n := 8) (G.1 30 gc30 rfl).1
  obtain ⟨q1, q2, e39⟩ := oc_39 G
  obtain ⟨u0, u1, ese⟩ := oc_110 G
  obtain ⟨nw, -, kw, e182⟩ := ai_of (hp := hp) (a := 182) (t := 1) (n := 396) (G.1 182 gc182 rfl).1
  obtain ⟨nz, -, kz, e187⟩ := al_of (hp := hp) (a := 187) (t := 2) (n := 15) (G.1 187 gc187 rfl).1
  obtain ⟨rd, -, lr, e183⟩ := ai_of (hp := hp) (a := 183) (t := 1) (n := 101) (G.1 183 gc183 rfl).1
  obtain ⟨rn, -, ln, e188⟩ := al_of (hp := hp) (a := 188) (t := 2) (n := 15) (G.1 188 gc188 rfl).1
  obtain ⟨on, -, lo, e191⟩ := ai_of (hp := hp) (a := 191) (t := 3) (n := 3) (G.1 191 gc191 rfl).1
  obtain ⟨B, hB, hM, hb⟩ := tp_B tp
  have o1 : ov hp ((0, .inr (10, [.ref 1, .ref 3, .ref 13, .ref 23, .ref 31, .ref 39, .ref 105, .ref 110, .ref ss, .ref 120, .ref 125, .ref 129, .ref 131, .int lt, .int fb, .int tq, .int gb])) :: (1, tcl n lim a kd pl w le nu tk fa fp) :: (2, bcl bs) :: [(13, dcl13 P Dn lw cl id gl bo), (14, lng pn), (15, ia ri), (16, ia lf), (17, ia wa), (18, ia fo), (19, lng dn), (20, ia ha), (21, ia pa), (22, ia bl), (23, .inr (3, [.int c0, .int c1, .int c2, .int c3, .int c4, .ref 24, .ref 25, .ref 26, .ref 27, .ref 28, .ref 29, .ref 30])), (24, ia a1), (25, ia a2), (26, ia a3), (27, ia a4), (28, ia a5), (29, ia a6), (30, ia a7), (39, .inr (6, [.ref 40, .int q1, .int q2])), (110, .inr (7, [.int u0, .int u1, .ref 111, .ref 112, .ref 113, .ref 114]))]) = hp := ov_id e0 (ov_id e1 (ov_id e2 (ov_id eb (ov_id ca1 (ov_id ca2 (ov_id ca3 (ov_id ca4 (ov_id ca5 (ov_id ca6 (ov_id ca7 (ov_id ca8 (ov_id ca9 (ov_id e23 (ov_id y1 (ov_id y2 (ov_id y3 (ov_id y4 (ov_id y5 (ov_id y6 (ov_id y7 (ov_id e39 (ov_c1 ese))))))))))))))))))))))
  rcases dd13_110 (P := P) (Dn := Dn) (lw := lw) (cl := cl) (id := id) (gl := gl) (bo := bo) (lt := lt) (fb := fb) (tq := tq) (gb := gb) (q1 := q1) (q2 := q2) (sm := sm) (pr := pr) (ss := ss) (n := n) (lim0 := lim) (a0 := a) (kd0 := kd) (pl0 := pl) (w0 := w) (le0 := le) (nu0 := nu) (tk0 := tk) (fa0 := fa) (fp0 := fp) (sz1 := sz) (lim1 := lim2) (a1x := am) (fr1 := fr) (kd1 := kd2) (p1 := p0) (nu1 := nu2) (sg1 := sg) (fa1 := fa2) (pl1 := pl2) (td1 := td) (wd1 := wd) (c0 := c0) (c1 := c1) (c2 := c2) (c3 := c3) (c4 := c4) (e0 := u0) (e1 := u1) hB hM hb hn ⟨la1, la2, la3, la4, la5, la6, la7, la8, la9⟩ lr ln lo k1 k2 k3 k4 k5 k6 k7 kw kz with ⟨pl9, kk, T2, M2, D2, R2, j1, j2, ⟨tl, ta, tkd, tw, tle, tnu, ttk, tfp, rfl⟩, ⟨msz, ml, ma, mfr, mkd, mnu, msg, mqm, mtd, mwd, rfl⟩, s1, s2, hx, hm⟩ | ⟨ln2, T2, M2, D2, R2, gl2, nw2, nz2, ⟨tl, ta, tkd, tpl, tw, tle, tnu, ttk, tfp, rfl⟩, ⟨msz, ml, ma, mfr, mkd, mnu, msg, mqm, mtd, mwd, rfl⟩, m1, m2, ⟨vy0, vy1, vy2, vy3, vy4, vy5, vy6, vy7, vy8, vy9, vy10, vy11, vy12, vy13, vy14, vy15, vy16, vy17, vy18, rfl, rfl, lr5, ln5, df, w3, w4⟩, hx, hm⟩
  · obtain ⟨vy0, vy1, vy2, vy3, vy4, vy5, vy6, vy7, vy8, vy9, vy10, vy11, vy12, vy13, vy14, vy15, rfl⟩ := s1
    obtain ⟨vy16, vy17, vy18, rfl⟩ := s2
    have hx := FR_at o1 (hx hp hlen)
    obtain ⟨q3, q4⟩ := vi_inj (FR.det f1 hx)
    have hl2 : Nat.ble 204 hc.length = true := by
      rw [q4]
      exact ov_hl hlen
    have w_e182 := ov_q q4 e182 rfl
    have w_e187 := ov_q q4 e187 rfl
    have w_e191 := ov_q q4 e191 rfl
    have w_e188 := ov_q q4 e188 rfl
    have w_e183 := ov_q q4 e183 rfl
    have w_e181 := ov_q q4 e181 rfl
    have w_e180 := ov_q q4 e180 rfl
    have hm := FR_at (ov_id w_e182 (ov_id w_e187 (ov_id w_e191 (ov_id w_e188 (ov_id w_e183 (ov_id w_e181 (ov_c1 w_e180))))))) (hm hc hl2)
    obtain ⟨q5, q6⟩ := vi_inj (FR.det f2 hm)
    clear hm hl2 f1 f2 hx w_e182 w_e187 w_e191 w_e188 w_e183 w_e181 w_e180
    subst q6
    subst q4
    refine ⟨q5.trans q3.symm, ⟨bs, ts, (ov_no rfl).trans (ov_at rfl (ov_lt hlen (by decide))), ov_at rfl (ov_lt (ov_hl hlen) (by decide)), tp⟩, Or.inl ⟨(hq_obj ((ov_no rfl).trans (ov_at rfl (ov_lt hlen (by decide))))).trans rfl, (hq_obj ((ov_no rfl).trans (ov_at rfl (ov_lt hlen (by decide))))).trans rfl, dh3_keep (cas10 (m := 3) (ce_same ((ov_no rfl).trans (ov_no rfl))) (ce_same ((ov_no rfl).trans (ov_no rfl))) (ce_same ((ov_no rfl).trans (ov_no rfl))) (ce_same ((ov_no rfl).trans (ov_no rfl))) (ce_same ((ov_no rfl).trans (ov_no rfl))) (ce_same ((ov_no rfl).trans (ov_no rfl))) (ce_same ((ov_no rfl).trans (ov_no rfl))) (ce_same ((ov_no rfl).trans (ov_no rfl))) (ce_same ((ov_no rfl).trans (ov_no rfl))) (ce_same ((ov_no rfl).trans (ov_no rfl)))) (fun j hj => (ce_same ((ov_no rfl).trans (ov_no rfl))).2 _) (fun j hj => (ce_same ((ov_no rfl).trans (ov_no rfl))).2 _) hD⟩, Int32.ofNat kk, (hq_obj ((ov_no rfl).trans (ov_at rfl (ov_lt hlen (by decide))))).trans rfl, (hq_obj (ov_at rfl (ov_lt (ov_hl hlen) (by decide)))).trans rfl⟩
  · have hx := FR_at o1 (hx hp hlen)
    obtain ⟨q3, q4⟩ := vi_inj (FR.det f1 hx)
    have hl2 : Nat.ble 204 hc.length = true := by
      rw [q4]
      exact ov_hl hlen
    have w_e182 := ov_q q4 e182 rfl
    have w_e187 := ov_q q4 e187 rfl
    have w_e191 := ov_q q4 e191 rfl
    have w_e188 := ov_q q4 e188 rfl
    have w_e183 := ov_q q4 e183 rfl
    have w_e181 := ov_q q4 e181 rfl
    have w_e180 := ov_q q4 e180 rfl
    have hm := FR_at (ov_id w_e182 (ov_id w_e187 (ov_id w_e191 (ov_id w_e188 (ov_id w_e183 (ov_id w_e181 (ov_c1 w_e180))))))) (hm hc hl2)
    obtain ⟨q5, q6⟩ := vi_inj (FR.det f2 hm)
    clear hm f1 f2 hx w_e182 w_e187 w_e191 w_e188 w_e183 w_e181 w_e180
    refine ⟨q5.trans q3.symm, ⟨bs, ts, ov_q q6 (ov_qa q4 rfl hlen rfl) rfl, ov_qa q6 rfl hl2 rfl, tp⟩, Or.inr ⟨(hq_obj (ov_q q6 (ov_qa q4 rfl hlen rfl) rfl)).trans rfl, (hq_obj (ov_q q6 (ov_qa q4 rfl hlen rfl) rfl)).trans rfl, vy0, vy1, vy2, vy3, vy4, vy5, vy6, vy7, vy8, vy9, vy10, vy11, vy12, vy13, vy14, vy15, vy16, vy17, ov_q q6 (ov_qa q4 rfl hlen rfl) rfl, ov_q q6 (ov_qa q4 rfl hlen rfl) rfl, ov_q q6 (ov_qa q4 rfl hlen rfl) rfl, ov_q q6 (ov_qa q4 rfl hlen rfl) rfl, ov_q q6 (ov_qa q4 rfl hlen rfl) rfl, ov_q q6 (ov_qa q4 rfl hlen rfl) rfl, ov_q q6 (ov_qa q4 rfl hlen rfl) rfl, ov_q q6 (ov_qa q4 rfl hlen rfl) rfl, ov_q q6 (ov_qa q4 rfl hlen rfl) rfl, ov_q q6 (ov_qa q4 rfl hlen rfl) rfl, lr5, ln5, df, fun j hj => ?_, fun j hj => ?_⟩, Int32.ofNat 0, (hq_obj (ov_q q6 (ov_qa q4 rfl hlen rfl) rfl)).trans rfl, (hq_obj (ov_qa q6 rfl hl2 rfl)).trans rfl⟩
    · rw [Nat.zero_add, hq_int (l := nw2) (t := 1) (ov_qa q6 rfl hl2 rfl), w3 j hj]
    · rw [Nat.zero_add, hq_lng (l := nz2) (t := 2) (ov_qa q6 rfl hl2 rfl), w4 j hj]
theorem ddu13_115 {hp hc hd : List AE} {r r2 : Int32} {k1 k2 : Nat} (G : hp_ok GG hp) (hlen : Nat.ble 204 hp.length = true) (hT : TPH hp) (hz : ∃ z : Int32, hq hp 1 1 = some (.int z) ∧ hq hp 180 2 = some (.int z)) (h0d : hq hp 0 1 = some (.ref 3)) (h0s : hq hp 0 2 = some (.ref 13)) (hse : hq hp 0 7 = some (.ref 115)) (hD : DH3 hp 182 0 187 0) (f1 : FR k1 14 [.ref 0] hp (some (.int r), hc)) (f2 : FR k2 195 [.ref 180] hc (some (.int r2), hd)) : r2 = r ∧ TPH hd ∧ CUR hd ∧ FLT hd := by
  obtain ⟨d, s, se, ss, lt, fb, tq, gb, e0, hd0, hs0, hse0, hss0⟩ := oc_0 G
  obtain ⟨n, lim, a, kd, pl, w, le, nu, tk, fa, fp, e1, hn, hw⟩ := oc_1 G
  obtain ⟨bs, ts, e2, e181, tp⟩ := hT
  obtain ⟨p0, n2, sz, lim2, am, fr, kd2, nu2, sg, fa2, pl2, wd, td, sm, pr, e180, hn2⟩ := oc_180 G
  obtain rfl : n = n2 := by
    obtain ⟨z, z1, z2⟩ := hz
    rw [hq_obj e1] at z1
    rw [hq_obj e180] at z2
    have y1 : some (Value.int (Int32.ofNat n)) = some (.int z) := z1
    have y2 : some (Value.int (Int32.ofNat n2)) = some (.int z) := z2
    have e := congrArg Int32.toInt (Value.int.inj (Option.some.inj (y1.trans y2.symm)))
    rw [n_int (by omega), n_int (by omega)] at e
    omega
  rw [hq_obj e0] at h0d h0s hse
  have h0d : some (Value.ref d) = some (.ref 3) := h0d
  have h0s : some (Value.ref s) = some (.ref 13) := h0s
  have hse : some (Value.ref se) = some (.ref 115) := hse
  obtain rfl := Value.ref.inj (Option.some.inj h0d)
  obtain rfl := Value.ref.inj (Option.some.inj h0s)
  obtain rfl := Value.ref.inj (Option.some.inj hse)
  obtain ⟨P, Dn, lw, cl, id, gl, bo, eb, hP, hDn⟩ := oc_13 G
  obtain ⟨pn, -, la1, ca1⟩ := al_of (hp := hp) (a := 14) (t := 2) (n := 7) (G.1 14 gc14 rfl).1
  obtain ⟨ri, -, la2, ca2⟩ := ai_of (hp := hp) (a := 15) (t := 1) (n := 7) (G.1 15 gc15 rfl).1
  obtain ⟨lf, -, la3, ca3⟩ := ai_of (hp := hp) (a := 16) (t := 1) (n := 7) (G.1 16 gc16 rfl).1
  obtain ⟨wa, -, la4, ca4⟩ := ai_of (hp := hp) (a := 17) (t := 1) (n := 7) (G.1 17 gc17 rfl).1
  obtain ⟨fo, -, la5, ca5⟩ := ai_of (hp := hp) (a := 18) (t := 1) (n := 49) (G.1 18 gc18 rfl).1
  obtain ⟨dn, -, la6, ca6⟩ := al_of (hp := hp) (a := 19) (t := 2) (n := 8) (G.1 19 gc19 rfl).1
  obtain ⟨ha, -, la7, ca7⟩ := ai_of (hp := hp) (a := 20) (t := 1) (n := 8) (G.1 20 gc20 rfl).1
  obtain ⟨pa, -, la8, ca8⟩ := ai_of (hp := hp) (a := 21) (t := 1) (n := 8) (G.1 21 gc21 rfl).1
  obtain ⟨bl, -, la9, ca9⟩ := ai_of (hp := hp) (a := 22) (t := 1) (n := 8) (G.1 22 gc22 rfl).1
  obtain ⟨c0, c1, c2, c3, c4, e23⟩ := oc_23 G
  obtain ⟨a1, -, k1, y1⟩ := ai_of (hp := hp) (a := 24) (t := 1) (n := 7) (G.1 24 gc24 rfl).1
  obtain ⟨a2, -, k2, y2⟩ := ai_of (hp := hp) (a := 25) (t := 1) (n := 7) (G.1 25 gc25 rfl).1
  obtain ⟨a3, -, k3, y3⟩ := ai_of (hp := hp) (a := 26) (t := 1) (n := 7) (G.1 26 gc26 rfl).1
  obtain ⟨a4, -, k4, y4⟩ := ai_of (hp := hp) (a := 27) (t := 1) (n := 7) (G.1 27 gc27 rfl).1
  obtain ⟨a5, -, k5, y5⟩ := ai_of (hp := hp) (a := 28) (t := 1) (n := 7) (G.1 28 gc28 rfl).1
  obtain ⟨a6, -, k6, y6⟩ := ai_of (hp := hp) (a := 29) (t := 1) (n := 7) (G.1 29 gc29 rfl).1
  obtain ⟨a7, -, k7, y7⟩ := ai_of (hp := hp) (a := 30) (t := 1) (n := 8) (G.1 30 gc30 rfl).1
  obtain ⟨q1, q2, e39⟩ := oc_39 G
  obtain ⟨u0, u1, ese⟩ := oc_115 G
  obtain ⟨nw, -, kw, e182⟩ := ai_of (hp := hp) (a := 182) (t := 1) (n := 396) (G.1 182 gc182 rfl).1
  obtain ⟨nz, -, kz, e187⟩ := al_of (hp := hp) (a := 187) (t := 2) (n := 15) (G.1 187 gc187 rfl).1
  obtain ⟨rd, -, lr, e183⟩ := ai_of (hp := hp) (a := 183) (t := 1) (n := 101) (G.1 183 gc183 rfl).1
  obtain ⟨rn, -, ln, e188⟩ := al_of (hp := hp) (a := 188) (t := 2) (n := 15) (G.1 188 gc188 rfl).1
  obtain ⟨on, -, lo, e191⟩ := ai_of (hp := hp) (a := 191) (t := 3) (n := 3) (G.1 191 gc191 rfl).1
  obtain ⟨B, hB, hM, hb⟩ := tp_B tp
  have o1 : ov hp ((0, .inr (10, [.ref 1, .ref 3, .ref 13, .ref 23, .ref 31, .ref 39, .ref 105, .ref 115, .ref ss, .ref 120, .ref 125, .ref 129, .ref 131, .int lt, .int fb, .int tq, .int gb])) :: (1, tcl n lim a kd pl w le nu tk fa fp) :: (2, bcl bs) :: [(13, dcl13 P Dn lw cl id gl bo), (14, lng pn), (15, ia ri), (16, ia lf), (17, ia wa), (18, ia fo), (19, lng dn), (20, ia ha), (21, ia pa), (22, ia bl), (23, .inr (3, [.int c0, .int c1, .int c2, .int c3, .int c4, .ref 24, .ref 25, .ref 26, .ref 27, .ref 28, .ref 29, .ref 30])), (24, ia a1), (25, ia a2), (26, ia a3), (27, ia a4), (28, ia a5), (29, ia a6), (30, ia a7), (39, .inr (6, [.ref 40, .int q1, .int q2])), (115, .inr (7, [.int u0, .int u1, .ref 116, .ref 117, .ref 118, .ref 119]))]) = hp := ov_id e0 (ov_id e1 (ov_id e2 (ov_id eb (ov_id ca1 (ov_id ca2 (ov_id ca3 (ov_id ca4 (ov_id ca5 (ov_id ca6 (ov_id ca7 (ov_id ca8 (ov_id ca9 (ov_id e23 (ov_id y1 (ov_id y2 (ov_id y3 (ov_id y4 (ov_id y5 (ov_id y6 (ov_id y7 (ov_id e39 (ov_c1 ese))))))))))))))))))))))
  rcases dd13_115 (P := P) (Dn := Dn) (lw := lw) (cl := cl) (id := id) (gl := gl) (bo := bo) (lt := lt) (fb := fb) (tq := tq) (gb := gb) (q1 := q1) (q2 := q2) (sm := sm) (pr := pr) (ss := ss) (n := n) (lim0 := lim) (a0 := a) (kd0 := kd) (pl0 := pl) (w0 := w) (le0 := le) (nu0 := nu) (tk0 := tk) (fa0 := fa) (fp0 := fp) (sz1 := sz) (lim1 := lim2) (a1x := am) (fr1 := fr) (kd1 := kd2) (p1 := p0) (nu1 := nu2) (sg1 := sg) (fa1 := fa2) (pl1 := pl2) (td1 := td) (wd1 := wd) (c0 := c0) (c1 := c1) (c2 := c2) (c3 := c3) (c4 := c4) (e0 := u0) (e1 := u1) hB hM hb hn ⟨la1, la2, la3, la4, la5, la6, la7, la8, la9⟩ lr ln lo k1 k2 k3 k4 k5 k6 k7 kw kz with ⟨pl9, kk, T2, M2, D2, R2, j1, j2, ⟨tl, ta, tkd, tw, tle, tnu, ttk, tfp, rfl⟩, ⟨msz, ml, ma, mfr, mkd, mnu, msg, mqm, mtd, mwd, rfl⟩, s1, s2, hx, hm⟩ | ⟨ln2, T2, M2, D2, R2, gl2, nw2, nz2, ⟨tl, ta, tkd, tpl, tw, tle, tnu, ttk, tfp, rfl⟩, ⟨msz, ml, ma, mfr, mkd, mnu, msg, mqm, mtd, mwd, rfl⟩, m1, m2, ⟨vy0, vy1, vy2, vy3, vy4, vy5, vy6, vy7, vy8, vy9, vy10, vy11, vy12, vy13, vy14, vy15, vy16, vy17, vy18, rfl, rfl, lr5, ln5, df, w3, w4⟩, hx, hm⟩
  · obtain ⟨vy0, vy1, vy2, vy3, vy4, vy5, vy6, vy7, vy8, vy9, vy10, vy11, vy12, vy13, vy14, vy15, rfl⟩ := s1
    obtain ⟨vy16, vy17, vy18, rfl⟩ := s2
    have hx := FR_at o1 (hx hp hlen)
    obtain ⟨q3, q4⟩ := vi_inj (FR.det f1 hx)
    have hl2 : Nat.ble 204 hc.length = true := by
      rw [q4]
      exact ov_hl hlen
    have w_e182 := ov_q q4 e182 rfl
    have w_e187 := ov_q q4 e187 rfl
    have w_e191 := ov_q q4 e191 rfl
    have w_e188 := ov_q q4 e188 rfl
    have w_e183 := ov_q q4 e183 rfl
    have w_e181 := ov_q q4 e181 rfl
    have w_e180 := ov_q q4 e180 rfl
    have hm := FR_at (ov_id w_e182 (ov_id w_e187 (ov_id w_e191 (ov_id w_e188 (ov_id w_e183 (ov_id w_e181 (ov_c1 w_e180))))))) (hm hc hl2)
    obtain ⟨q5, q6⟩ := vi_inj (FR.det f2 hm)
    clear hm hl2 f1 f2 hx w_e182 w_e187 w_e191 w_e188 w_e183 w_e181 w_e180
    subst q6
    subst q4
    refine ⟨q5.trans q3.symm, ⟨bs, ts, (ov_no rfl).trans (ov_at rfl (ov_lt hlen (by decide))), ov_at rfl (ov_lt (ov_hl hlen) (by decide)), tp⟩, Or.inl ⟨(hq_obj ((ov_no rfl).trans (ov_at rfl (ov_lt hlen (by decide))))).trans rfl, (hq_obj ((ov_no rfl).trans (ov_at rfl (ov_lt hlen (by decide))))).trans rfl, dh3_keep (cas10 (m := 3) (ce_same ((ov_no rfl).trans (ov_no rfl))) (ce_same ((ov_no rfl).trans (ov_no rfl))) (ce_same ((ov_no rfl).trans (ov_no rfl))) (ce_same ((ov_no rfl).trans (ov_no rfl))) (ce_same ((ov_no rfl).trans (ov_no rfl))) (ce_same ((ov_no rfl).trans (ov_no rfl))) (ce_same ((ov_no rfl).trans (ov_no rfl))) (ce_same ((ov_no rfl).trans (ov_no rfl))) (ce_same ((ov_no rfl).trans (ov_no rfl))) (ce_same ((ov_no rfl).trans (ov_no rfl)))) (fun j hj => (ce_same ((ov_no rfl).trans (ov_no rfl))).2 _) (fun j hj => (ce_same ((ov_no rfl).trans (ov_no rfl))).2 _) hD⟩, Int32.ofNat kk, (hq_obj ((ov_no rfl).trans (ov_at rfl (ov_lt hlen (by decide))))).trans rfl, (hq_obj (ov_at rfl (ov_lt (ov_hl hlen) (by decide)))).trans rfl⟩
  · have hx := FR_at o1 (hx hp hlen)
    obtain ⟨q3, q4⟩ := vi_inj (FR.det f1 hx)
    have hl2 : Nat.ble 204 hc.length = true := by
      rw [q4]
      exact ov_hl hlen
    have w_e182 := ov_q q4 e182 rfl
    have w_e187 := ov_q q4 e187 rfl
    have w_e191 := ov_q q4 e191 rfl
    have w_e188 := ov_q q4 e188 rfl
    have w_e183 := ov_q q4 e183 rfl
    have w_e181 := ov_q q4 e181 rfl
    have w_e180 := ov_q q4 e180 rfl
    have hm := FR_at (ov_id w_e182 (ov_id w_e187 (ov_id w_e191 (ov_id w_e188 (ov_id w_e183 (ov_id w_e181 (ov_c1 w_e180))))))) (hm hc hl2)
    obtain ⟨q5, q6⟩ := vi_inj (FR.det f2 hm)
    clear hm f1 f2 hx w_e182 w_e187 w_e191 w_e188 w_e183 w_e181 w_e180
    refine ⟨q5.trans q3.symm, ⟨bs, ts, ov_q q6 (ov_qa q4 rfl hlen rfl) rfl, ov_qa q6 rfl hl2 rfl, tp⟩, Or.inr ⟨(hq_obj (ov_q q6 (ov_qa q4 rfl hlen rfl) rfl)).trans rfl, (hq_obj (ov_q q6 (ov_qa q4 rfl hlen rfl) rfl)).trans rfl, vy0, vy1, vy2, vy3, vy4, vy5, vy6, vy7, vy8, vy9, vy10, vy11, vy12, vy13, vy14, vy15, vy16, vy17, ov_q q6 (ov_qa q4 rfl hlen rfl) rfl, ov_q q6 (ov_qa q4 rfl hlen rfl) rfl, ov_q q6 (ov_qa q4 rfl hlen rfl) rfl, ov_q q6 (ov_qa q4 rfl hlen rfl) rfl, ov_q q6 (ov_qa q4 rfl hlen rfl) rfl, ov_q q6 (ov_qa q4 rfl hlen rfl) rfl, ov_q q6 (ov_qa q4 rfl hlen rfl) rfl, ov_q q6 (ov_qa q4 rfl hlen rfl) rfl, ov_q q6 (ov_qa q4 rfl hlen rfl) rfl, ov_q q6 (ov_qa q4 rfl hlen rfl) rfl, lr5, ln5, df, fun j hj => ?_, fun j hj => ?_⟩, Int32.ofNat 0, (hq_obj (ov_q q6 (ov_qa q4 rfl hlen rfl) rfl)).trans rfl, (hq_obj (ov_qa q6 rfl hl2 rfl)).trans rfl⟩
    · rw [Nat.zero_add, hq_int (l := nw2) (t := 1) (ov_qa q6 rfl hl2 rfl), w3 j hj]
    · rw [Nat.zero_add, hq_lng (l := nz2) (t := 2) (ov_qa q6 rfl hl2 rfl), w4 j hj]
theorem ddu3_110 {hp hc hd : List AE} {r r2 : Int32} {k1 k2 : Nat} (G : hp_ok GG hp) (hlen : Nat.ble 204 hp.length = true) (hT : TPH hp) (hz : ∃ z : Int32, hq hp 1 1 = some (.int z) ∧ hq hp 180 2 = some (.int z)) (h0d : hq hp 0 1 = some (.ref 13)) (h0s : hq hp 0 2 = some (.ref 3)) (hse : hq hp 0 7 = some (.ref 110)) (hD : DH13 hp 182 0 187 0) (f1 : FR k1 14 [.ref 0] hp (some (.int r), hc)) (f2 : FR k2 195 [.ref 180] hc (some (.int r2), hd)) : r2 = r ∧ TPH hd ∧ CUR hd ∧ FLT hd := by
  obtain ⟨d, s, se, ss, lt, fb, tq, gb, e0, hd0, hs0, hse0, hss0⟩ := oc_0 G
  obtain ⟨n, lim, a, kd, pl, w, le, nu, tk, fa, fp, e1, hn, hw⟩ := oc_1 G
  obtain ⟨bs, ts, e2, e181, tp⟩ := hT
  obtain ⟨p0, n2, sz, lim2, am, fr, kd2, nu2, sg, fa2, pl2, wd, td, sm, pr, e180, hn2⟩ := oc_180 G
  obtain rfl : n = n2 := by
    obtain ⟨z, z1, z2⟩ := hz
    rw [hq_obj e1] at z1
    rw [hq_obj e180] at z2
    have y1 : some (Value.int (Int32.ofNat n)) = some (.int z) := z1
    have y2 : some (Value.int (Int32.ofNat n2)) = some (.int z) := z2
    have e := congrArg Int32.toInt (Value.int.inj (Option.some.inj (y1.trans y2.symm)))
    rw [n_int (by omega), n_int (by omega)] at e
    omega
  rw [hq_obj e0] at h0d h0s hse
  have h0d : some (Value.ref d) = some (.ref 13) := h0d
  have h0s : some (Value.ref s) = some (.ref 3) := h0s
  have hse : some (Value.ref se) = some (.ref 110) := hse
  obtain rfl := Value.ref.inj (Option.some.inj h0d)
  obtain rfl := Value.ref.inj (Option.some.inj h0s)
  obtain rfl := Value.ref.inj (Option.some.inj hse)
  obtain ⟨P, Dn, lw, cl, id, gl, bo, eb, hP, hDn⟩ := oc_3 G
  obtain ⟨pn, -, la1, ca1⟩ := al_of (hp := hp) (a := 4) (t := 2) (n := 7) (G.1 4 gc4 rfl).1
  obtain ⟨ri, -, la2, ca2⟩ := ai_of (hp := hp) (a := 5) (t := 1) (n := 7) (G.1 5 gc5 rfl).1
  obtain ⟨lf, -, la3, ca3⟩ := ai_of (hp := hp) (a := 6) (t := 1) (n := 7) (G.1 6 gc6 rfl).1
  obtain ⟨wa, -, la4, ca4⟩ := ai_of (hp := hp) (a := 7) (t := 1) (n := 7) (G.1 7 gc7 rfl).1
  obtain ⟨fo, -, la5, ca5⟩ := ai_of (hp := hp) (a := 8) (t := 1) (n := 49) (G.1 8 gc8 rfl).1
  obtain ⟨dn, -, la6, ca6⟩ := al_of (hp := hp) (a := 9) (t := 2) (n := 8) (G.1 9 gc9 rfl).1
  obtain ⟨ha, -, la7, ca7⟩ := ai_of (hp := hp) (a := 10) (t := 1) (n := 8) (G.1 10 gc10 rfl).1
  obtain ⟨pa, -, la8, ca8⟩ := ai_of (hp := hp) (a := 11) (t := 1) (n := 8) (G.1 11 gc11 rfl).1
  obtain ⟨bl, -, la9, ca9⟩ := ai_of (hp := hp) (a := 12) (t := 1) (n := 8) (G.1 12 gc12 rfl).1
  obtain ⟨c0, c1, c2, c3, c4, e23⟩ := oc_23 G
  obtain ⟨a1, -, k1, y1⟩ := ai_of (hp := hp) (a := 24) (t := 1) (n := 7) (G.1 24 gc24 rfl).1
  obtain ⟨a2, -, k2, y2⟩ := ai_of (hp := hp) (a := 25) (t := 1) (n := 7) (G.1 25 gc25 rfl).1
  obtain ⟨a3, -, k3, y3⟩ := ai_of (hp := hp) (a := 26) (t := 1) (n := 7) (G.1 26 gc26 rfl).1
  obtain ⟨a4, -, k4, y4⟩ := ai_of (hp := hp) (a := 27) (t := 1) (n := 7) (G.1 27 gc27 rfl).1
  obtain ⟨a5, -, k5, y5⟩ := ai_of (hp := hp) (a := 28) (t := 1) (n := 7) (G.1 28 gc28 rfl).1
  obtain ⟨a6, -, k6, y6⟩ := ai_of (hp := hp) (a := 29) (t := 1) (n := 7) (G.1 29 gc29 rfl).1
  obtain ⟨a7, -, k7, y7⟩ := ai_of (hp := hp) (a := 30) (t := 1) (n := 8) (G.1 30 gc30 rfl).1
  obtain ⟨q1, q2, e39⟩ := oc_39 G
  obtain ⟨u0, u1, ese⟩ := oc_110 G
  obtain ⟨nw, -, kw, e182⟩ := ai_of (hp := hp) (a := 182) (t := 1) (n := 396) (G.1 182 gc182 rfl).1
  obtain ⟨nz, -, kz, e187⟩ := al_of (hp := hp) (a := 187) (t := 2) (n := 15) (G.1 187 gc187 rfl).1
  obtain ⟨rd, -, lr, e183⟩ := ai_of (hp := hp) (a := 183) (t := 1) (n := 101) (G.1 183 gc183 rfl).1
  obtain ⟨rn, -, ln, e188⟩ := al_of (hp := hp) (a := 188) (t := 2) (n := 15) (G.1 188 gc188 rfl).1
  obtain ⟨on, -, lo, e191⟩ := ai_of (hp := hp) (a := 191) (t := 3) (n := 3) (G.1 191 gc191 rfl).1
  obtain ⟨B, hB, hM, hb⟩ := tp_B tp
  have o1 : ov hp ((0, .inr (10, [.ref 1, .ref 13, .ref 3, .ref 23, .ref 31, .ref 39, .ref 105, .ref 110, .ref ss, .ref 120, .ref 125, .ref 129, .ref 131, .int lt, .int fb, .int tq, .int gb])) :: (1, tcl n lim a kd pl w le nu tk fa fp) :: (2, bcl bs) :: [(3, dcl3 P Dn lw cl id gl bo), (4, lng pn), (5, ia ri), (6, ia lf), (7, ia wa), (8, ia fo), (9, lng dn), (10, ia ha), (11, ia pa), (12, ia bl), (23, .inr (3, [.int c0, .int c1, .int c2, .int c3, .int c4, .ref 24, .ref 25, .ref 26, .ref 27, .ref 28, .ref 29, .ref 30])), (24, ia a1), (25, ia a2), (26, ia a3), (27, ia a4), (28, ia a5), (29, ia a6), (30, ia a7), (39, .inr (6, [.ref 40, .int q1, .int q2])), (110, .inr (7, [.int u0, .int u1, .ref 111, .ref 112, .ref 113, .ref 114]))]) = hp := ov_id e0 (ov_id e1 (ov_id e2 (ov_id eb (ov_id ca1 (ov_id ca2 (ov_id ca3 (ov_id ca4 (ov_id ca5 (ov_id ca6 (ov_id ca7 (ov_id ca8 (ov_id ca9 (ov_id e23 (ov_id y1 (ov_id y2 (ov_id y3 (ov_id y4 (ov_id y5 (ov_id y6 (ov_id y7 (ov_id e39 (ov_c1 ese))))))))))))))))))))))
  rcases dd3_110 (P := P) (Dn := Dn) (lw := lw) (cl := cl) (id := id) (gl := gl) (bo := bo) (lt := lt) (fb := fb) (tq := tq) (gb := gb) (q1 := q1) (q2 := q2) (sm := sm) (pr := pr) (ss := ss) (n := n) (lim0 := lim) (a0 := a) (kd0 := kd) (pl0 := pl) (w0 := w) (le0 := le) (nu0 := nu) (tk0 := tk) (fa0 := fa) (fp0 := fp) (sz1 := sz) (lim1 := lim2) (a1x := am) (fr1 := fr) (kd1 := kd2) (p1 := p0) (nu1 := nu2) (sg1 := sg) (fa1 := fa2) (pl1 := pl2) (td1 := td) (wd1 := wd) (c0 := c0) (c1 := c1) (c2 := c2) (c3 := c3) (c4 := c4) (e0 := u0) (e1 := u1) hB hM hb hn ⟨la1, la2, la3, la4, la5, la6, la7, la8, la9⟩ lr ln lo k1 k2 k3 k4 k5 k6 k7 kw kz with ⟨pl9, kk, T2, M2, D2, R2, j1, j2, ⟨tl, ta, tkd, tw, tle, tnu, ttk, tfp, rfl⟩, ⟨msz, ml, ma, mfr, mkd, mnu, msg, mqm, mtd, mwd, rfl⟩, s1, s2, hx, hm⟩ | ⟨ln2, T2, M2, D2, R2, gl2, nw2, nz2, ⟨tl, ta, tkd, tpl, tw, tle, tnu, ttk, tfp, rfl⟩, ⟨msz, ml, ma, mfr, mkd, mnu, msg, mqm, mtd, mwd, rfl⟩, m1, m2, ⟨vy0, vy1, vy2, vy3, vy4, vy5, vy6, vy7, vy8, vy9, vy10, vy11, vy12, vy13, vy14, vy15, vy16, vy17, vy18, rfl, rfl, lr5, ln5, df, w3, w4⟩, hx, hm⟩
  · obtain ⟨vy0, vy1, vy2, vy3, vy4, vy5, vy6, vy7, vy8, vy9, vy10, vy11, vy12, vy13, vy14, vy15, rfl⟩ := s1
    obtain ⟨vy16, vy17, vy18, rfl⟩ := s2
    have hx := FR_at o1 (hx hp hlen)
    obtain ⟨q3, q4⟩ := vi_inj (FR.det f1 hx)
    have hl2 : Nat.ble 204 hc.length = true := by
      rw [q4]
      exact ov_hl hlen
    have w_e182 := ov_q q4 e182 rfl
    have w_e187 := ov_q q4 e187 rfl
    have w_e191 := ov_q q4 e191 rfl
    have w_e188 := ov_q q4 e188 rfl
    have w_e183 := ov_q q4 e183 rfl
    have w_e181 := ov_q q4 e181 rfl
    have w_e180 := ov_q q4 e180 rfl
    have hm := FR_at (ov_id w_e182 (ov_id w_e187 (ov_id w_e191 (ov_id w_e188 (ov_id w_e183 (ov_id w_e181 (ov_c1 w_e180))))))) (hm hc hl2)
    obtain ⟨q5, q6⟩ := vi_inj (FR.det f2 hm)
    clear hm hl2 f1 f2 hx w_e182 w_e187 w_e191 w_e188 w_e183 w_e181 w_e180
    subst q6
    subst q4
    refine ⟨q5.trans q3.symm, ⟨bs, ts, (ov_no rfl).trans (ov_at rfl (ov_lt hlen (by decide))), ov_at rfl (ov_lt (ov_hl hlen) (by decide)), tp⟩, Or.inr ⟨(hq_obj ((ov_no rfl).trans (ov_at rfl (ov_lt hlen (by decide))))).trans rfl, (hq_obj ((ov_no rfl).trans (ov_at rfl (ov_lt hlen (by decide))))).trans rfl, dh13_keep (cas10 (m := 13) (ce_same ((ov_no rfl).trans (ov_no rfl))) (ce_same ((ov_no rfl).trans (ov_no rfl))) (ce_same ((ov_no rfl).trans (ov_no rfl))) (ce_same ((ov_no rfl).trans (ov_no rfl))) (ce_same ((ov_no rfl).trans (ov_no rfl))) (ce_same ((ov_no rfl).trans (ov_no rfl))) (ce_same ((ov_no rfl).trans (ov_no rfl))) (ce_same ((ov_no rfl).trans (ov_no rfl))) (ce_same ((ov_no rfl).trans (ov_no rfl))) (ce_same ((ov_no rfl).trans (ov_no rfl)))) (fun j hj => (ce_same ((ov_no rfl).trans (ov_no rfl))).2 _) (fun j hj => (ce_same ((ov_no rfl).trans (ov_no rfl))).2 _) hD⟩, Int32.ofNat kk, (hq_obj ((ov_no rfl).trans (ov_at rfl (ov_lt hlen (by decide))))).trans rfl, (hq_obj (ov_at rfl (ov_lt (ov_hl hlen) (by decide)))).trans rfl⟩
  · have hx := FR_at o1 (hx hp hlen)
    obtain ⟨q3, q4⟩ := vi_inj (FR.det f1 hx)
    have hl2 : Nat.ble 204 hc.length = true := by
      rw [q4]
      exact ov_hl hlen
    have w_e182 := ov_q q4 e182 rfl
    have w_e187 := ov_q q4 e187 rfl
    have w_e191 := ov_q q4 e191 rfl
    have w_e188 := ov_q q4 e188 rfl
    have w_e183 := ov_q q4 e183 rfl
    have w_e181 := ov_q q4 e181 rfl
    have w_e180 := ov_q q4 e180 rfl
    have hm := FR_at (ov_id w_e182 (ov_id w_e187 (ov_id w_e191 (ov_id w_e188 (ov_id w_e183 (ov_id w_e181 (ov_c1 w_e180))))))) (hm hc hl2)
    obtain ⟨q5, q6⟩ := vi_inj (FR.det f2 hm)
    clear hm f1 f2 hx w_e182 w_e187 w_e191 w_e188 w_e183 w_e181 w_e180
    refine ⟨q5.trans q3.symm, ⟨bs, ts, ov_q q6 (ov_qa q4 rfl hlen rfl) rfl, ov_qa q6 rfl hl2 rfl, tp⟩, Or.inl ⟨(hq_obj (ov_q q6 (ov_qa q4 rfl hlen rfl) rfl)).trans rfl, (hq_obj (ov_q q6 (ov_qa q4 rfl hlen rfl) rfl)).trans rfl, vy0, vy1, vy2, vy3, vy4, vy5, vy6, vy7, vy8, vy9, vy10, vy11, vy12, vy13, vy14, vy15, vy16, vy17, ov_q q6 (ov_qa q4 rfl hlen rfl) rfl, ov_q q6 (ov_qa q4 rfl hlen rfl) rfl, ov_q q6 (ov_qa q4 rfl hlen rfl) rfl, ov_q q6 (ov_qa q4 rfl hlen rfl) rfl, ov_q q6 (ov_qa q4 rfl hlen rfl) rfl, ov_q q6 (ov_qa q4 rfl hlen rfl) rfl, ov_q q6 (ov_qa q4 rfl hlen rfl) rfl, ov_q q6 (ov_qa q4 rfl hlen rfl) rfl, ov_q q6 (ov_qa q4 rfl hlen rfl) rfl, ov_q q6 (ov_qa q4 rfl hlen rfl) rfl, lr5, ln5, df, fun j hj => ?_, fun j hj => ?_⟩, Int32.ofNat 0, (hq_obj (ov_q q6 (ov_qa q4 rfl hlen rfl) rfl)).trans rfl, (hq_obj (ov_qa q6 rfl hl2 rfl)).trans rfl⟩
    · rw [Nat.zero_add, hq_int (l := nw2) (t := 1) (ov_qa q6 rfl hl2 rfl), w3 j hj]
    · rw [Nat.zero_add, hq_lng (l := nz2) (t := 2) (ov_qa q6 rfl hl2 rfl), w4 j hj]
theorem ddu3_115 {hp hc hd : List AE} {r r2 : Int32} {k1 k2 : Nat} (G : hp_ok GG hp) (hlen : Nat.ble 204 hp.length = true) (hT : TPH hp) (hz : ∃ z : Int32, hq hp 1 1 = some (.int z) ∧ hq hp 180 2 = some (.int z)) (h0d : hq hp 0 1 = some (.ref 13)) (h0s : hq hp 0 2 = some (.ref 3)) (hse : hq hp 0 7 = some (.ref 115)) (hD : DH13 hp 182 0 187 0) (f1 : FR k1 14 [.ref 0] hp (some (.int r), hc)) (f2 : FR k2 195 [.ref 180] hc (some (.int r2), hd)) : r2 = r ∧ TPH hd ∧ CUR hd ∧ FLT hd := by
  obtain ⟨d, s, se, ss, lt, fb, tq, gb, e0, hd0, hs0, hse0, hss0⟩ := oc_0 G
  obtain ⟨n, lim, a, kd, pl, w, le, nu, tk, fa, fp, e1, hn, hw⟩ := oc_1 G
  obtain ⟨bs, ts, e2, e181, tp⟩ := hT
  obtain ⟨p0, n2, sz, lim2, am, fr, kd2, nu2, sg, fa2, pl2, wd, td, sm, pr, e180, hn2⟩ := oc_180 G
  obtain rfl : n = n2 := by
    obtain ⟨z, z1, z2⟩ := hz
    rw [hq_obj e1] at z1
    rw [hq_obj e180] at z2
    have y1 : some (Value.int (Int32.ofNat n)) = some (.int z) := z1
    have y2 : some (Value.int (Int32.ofNat n2)) = some (.int z) := z2
    have e := congrArg Int32.toInt (Value.int.inj (Option.some.inj (y1.trans y2.symm)))
    rw [n_int (by omega), n_int (by omega)] at e
    omega
  rw [hq_obj e0] at h0d h0s hse
  have h0d : some (Value.ref d) = some (.ref 13) := h0d
  have h0s : some (Value.ref s) = some (.ref 3) := h0s
  have hse : some (Value.ref se) = some (.ref 115) := hse
  obtain rfl := Value.ref.inj (Option.some.inj h0d)
  obtain rfl := Value.ref.inj (Option.some.inj h0s)
  obtain rfl := Value.ref.inj (Option.some.inj hse)
  obtain ⟨P, Dn, lw, cl, id, gl, bo, eb, hP, hDn⟩ := oc_3 G
  obtain ⟨pn, -, la1, ca1⟩ := al_of (hp := hp) (a := 4) (t := 2) (n := 7) (G.1 4 gc4 rfl).1
  obtain ⟨ri, -, la2, ca2⟩ := ai_of (hp := hp) (a := 5) (t := 1) (n := 7) (G.1 5 gc5 rfl).1
  obtain ⟨lf, -, la3, ca3⟩ := ai_of (hp := hp) (a := 6) (t := 1) (n := 7) (G.1 6 gc6 rfl).1
  obtain ⟨wa, -, la4, ca4⟩ := ai_of (hp := hp) (a := 7) (t := 1) (n := 7) (G.1 7 gc7 rfl).1
  obtain ⟨fo, -, la5, ca5⟩ := ai_of (hp := hp) (a := 8) (t := 1) (n := 49) (G.1 8 gc8 rfl).1
  obtain ⟨dn, -, la6, ca6⟩ := al_of (hp := hp) (a := 9) (t := 2) (n := 8) (G.1 9 gc9 rfl).1
  obtain ⟨ha, -, la7, ca7⟩ := ai_of (hp := hp) (a := 10) (t := 1) (n := 8) (G.1 10 gc10 rfl).1
  obtain ⟨pa, -, la8, ca8⟩ := ai_of (hp := hp) (a := 11) (t := 1) (n := 8) (G.1 11 gc11 rfl).1
  obtain ⟨bl, -, la9, ca9⟩ := ai_of (hp := hp) (a := 12) (t := 1) (n := 8) (G.1 12 gc12 rfl).1
  obtain ⟨c0, c1, c2, c3, c4, e23⟩ := oc_23 G
  obtain ⟨a1, -, k1, y1⟩ := ai_of (hp := hp) (a := 24) (t := 1) (n := 7) (G.1 24 gc24 rfl).1
  obtain ⟨a2, -, k2, y2⟩ := ai_of (hp := hp) (a := 25) (t := 1) (n := 7) (G.1 25 gc25 rfl).1
  obtain ⟨a3, -, k3, y3⟩ := ai_of (hp := hp) (a := 26) (t := 1) (n := 7) (G.1 26 gc26 rfl).1
  obtain ⟨a4, -, k4, y4⟩ := ai_of (hp := hp) (a := 27) (t := 1) (n := 7) (G.1 27 gc27 rfl).1
  obtain ⟨a5, -, k5, y5⟩ := ai_of (hp := hp) (a := 28) (t := 1) (n := 7) (G.1 28 gc28 rfl).1
  obtain ⟨a6, -, k6, y6⟩ := ai_of (hp := hp) (a := 29) (t := 1) (n := 7) (G.1 29 gc29 rfl).1
  obtain ⟨a7, -, k7, y7⟩ := ai_of (hp := hp) (a := 30) (t := 1) (n := 8) (G.1 30 gc30 rfl).1
  obtain ⟨q1, q2, e39⟩ := oc_39 G
  obtain ⟨u0, u1, ese⟩ := oc_115 G
  obtain ⟨nw, -, kw, e182⟩ := ai_of (hp := hp) (a := 182) (t := 1) (n := 396) (G.1 182 gc182 rfl).1
  obtain ⟨nz, -, kz, e187⟩ := al_of (hp := hp) (a := 187) (t := 2) (n := 15) (G.1 187 gc187 rfl).1
  obtain ⟨rd, -, lr, e183⟩ := ai_of (hp := hp) (a := 183) (t := 1) (n := 101) (G.1 183 gc183 rfl).1
  obtain ⟨rn, -, ln, e188⟩ := al_of (hp := hp) (a := 188) (t := 2) (n := 15) (G.1 188 gc188 rfl).1
  obtain ⟨on, -, lo, e191⟩ := ai_of (hp := hp) (a := 191) (t := 3) (n := 3) (G.1 191 gc191 rfl).1
  obtain ⟨B, hB, hM, hb⟩ := tp_B tp
  have o1 : ov hp ((0, .inr (10, [.ref 1, .ref 13, .ref 3, .ref 23, .ref 31, .ref 39, .ref 105, .ref 115, .ref ss, .ref 120, .ref 125, .ref 129, .ref 131, .int lt, .int fb, .int tq, .int gb])) :: (1, tcl n lim a kd pl w le nu tk fa fp) :: (2, bcl bs) :: [(3, dcl3 P Dn lw cl id gl bo), (4, lng pn), (5, ia ri), (6, ia lf), (7, ia wa), (8, ia fo), (9, lng dn), (10, ia ha), (11, ia pa), (12, ia bl), (23, .inr (3, [.int c0, .int c1, .int c2, .int c3, .int c4, .ref 24, .ref 25, .ref 26, .ref 27, .ref 28, .ref 29, .ref 30])), (24, ia a1), (25, ia a2), (26, ia a3), (27, ia a4), (28, ia a5), (29, ia a6), (30, ia a7), (39, .inr (6, [.ref 40, .int q1, .int q2])), (115, .inr (7, [.int u0, .int u1, .ref 116, .ref 117, .ref 118, .ref 119]))]) = hp := ov_id e0 (ov_id e1 (ov_id e2 (ov_id eb (ov_id ca1 (ov_id ca2 (ov_id ca3 (ov_id ca4 (ov_id ca5 (ov_id ca6 (ov_id ca7 (ov_id ca8 (ov_id ca9 (ov_id e23 (ov_id y1 (ov_id y2 (ov_id y3 (ov_id y4 (ov_id y5 (ov_id y6 (ov_id y7 (ov_id e39 (ov_c1 ese))))))))))))))))))))))
  rcases dd3_115 (P := P) (Dn := Dn) (lw := lw) (cl := cl) (id := id) (gl := gl) (bo := bo) (lt := lt) (fb := fb) (tq := tq) (gb := gb) (q1 := q1) (q2 := q2) (sm := sm) (pr := pr) (ss := ss) (n := n) (lim0 := lim) (a0 := a) (kd0 := kd) (pl0 := pl) (w0 := w) (le0 := le) (nu0 := nu) (tk0 := tk) (fa0 := fa) (fp0 := fp) (sz1 := sz) (lim1 := lim2) (a1x := am) (fr1 := fr) (kd1 := kd2) (p1 := p0) (nu1 := nu2) (sg1 := sg) (fa1 := fa2) (pl1 := pl2) (td1 := td) (wd1 := wd) (c0 := c0) (c1 := c1) (c2 := c2) (c3 := c3) (c4 := c4) (e0 := u0) (e1 := u1) hB hM hb hn ⟨la1, la2, la3, la4, la5, la6, la7, la8, la9⟩ lr ln lo k1 k2 k3 k4 k5 k6 k7 kw kz with ⟨pl9, kk, T2, M2, D2, R2, j1, j2, ⟨tl, ta, tkd, tw, tle, tnu, ttk, tfp, rfl⟩, ⟨msz, ml, ma, mfr, mkd, mnu, msg, mqm, mtd, mwd, rfl⟩, s1, s2, hx, hm⟩ | ⟨ln2, T2, M2, D2, R2, gl2, nw2, nz2, ⟨tl, ta, tkd, tpl, tw, tle, tnu, ttk, tfp, rfl⟩, ⟨msz, ml, ma, mfr, mkd, mnu, msg, mqm, mtd, mwd, rfl⟩, m1, m2, ⟨vy0, vy1, vy2, vy3, vy4, vy5, vy6, vy7, vy8, vy9, vy10, vy11, vy12, vy13, vy14, vy15, vy16, vy17, vy18, rfl, rfl, lr5, ln5, df, w3, w4⟩, hx, hm⟩
  · obtain ⟨vy0, vy1, vy2, vy3, vy4, vy5, vy6, vy7, vy8, vy9, vy10, vy11, vy12, vy13, vy14, vy15, rfl⟩ := s1
    obtain ⟨vy16, vy17, vy18, rfl⟩ := s2
    have hx := FR_at o1 (hx hp hlen)
    obtain ⟨q3, q4⟩ := vi_inj (FR.det f1 hx)
    have hl2 : Nat.ble 204 hc.length = true := by
      rw [q4]
      exact ov_hl hlen
    have w_e182 := ov_q q4 e182 rfl
    have w_e187 := ov_q q4 e187 rfl
    have w_e191 := ov_q q4 e191 rfl
    have w_e188 := ov_q q4 e188 rfl
    have w_e183 := ov_q q4 e183 rfl
    have w_e181 := ov_q q4 e181 rfl
    have w_e180 := ov_q q4 e180 rfl
    have hm := FR_at (ov_id w_e182 (ov_id w_e187 (ov_id w_e191 (ov_id w_e188 (ov_id w_e183 (ov_id w_e181 (ov_c1 w_e180))))))) (hm hc hl2)
    obtain ⟨q5, q6⟩ := vi_inj (FR.det f2 hm)
    clear hm hl2 f1 f2 hx w_e182 w_e187 w_e191 w_e188 w_e183 w_e181 w_e180
    subst q6
    subst q4
    refine ⟨q5.trans q3.symm, ⟨bs, ts, (ov_no rfl).trans (ov_at rfl (ov_lt hlen (by decide))), ov_at rfl (ov_lt (ov_hl hlen) (by decide)), tp⟩, Or.inr ⟨(hq_obj ((ov_no rfl).trans (ov_at rfl (ov_lt hlen (by decide))))).trans rfl, (hq_obj ((ov_no rfl).trans (ov_at rfl (ov_lt hlen (by decide))))).trans rfl, dh13_keep (cas10 (m := 13) (ce_same ((ov_no rfl).trans (ov_no rfl))) (ce_same ((ov_no rfl).trans (ov_no rfl))) (ce_same ((ov_no rfl).trans (ov_no rfl))) (ce_same ((ov_no rfl).trans (ov_no rfl))) (ce_same ((ov_no rfl).trans (ov_no rfl))) (ce_same ((ov_no rfl).trans (ov_no rfl))) (ce_same ((ov_no rfl).trans (ov_no rfl))) (ce_same ((ov_no rfl).trans (ov_no rfl))) (ce_same ((ov_no rfl).trans (ov_no rfl))) (ce_same ((ov_no rfl).trans (ov_no rfl)))) (fun j hj => (ce_same ((ov_no rfl).trans (ov_no rfl))).2 _) (fun j hj => (ce_same ((ov_no rfl).trans (ov_no rfl))).2 _) hD⟩, Int32.ofNat kk, (hq_obj ((ov_no rfl).trans (ov_at rfl (ov_lt hlen (by decide))))).trans rfl, (hq_obj (ov_at rfl (ov_lt (ov_hl hlen) (by decide)))).trans rfl⟩
  · have hx := FR_at o1 (hx hp hlen)
    obtain ⟨q3, q4⟩ := vi_inj (FR.det f1 hx)
    have hl2 : Nat.ble 204 hc.length = true := by
      rw [q4]
      exact ov_hl hlen
    have w_e182 := ov_q q4 e182 rfl
    have w_e187 := ov_q q4 e187 rfl
    have w_e191 := ov_q q4 e191 rfl
    have w_e188 := ov_q q4 e188 rfl
    have w_e183 := ov_q q4 e183 rfl
    have w_e181 := ov_q q4 e181 rfl
    have w_e180 := ov_q q4 e180 rfl
    have hm := FR_at (ov_id w_e182 (ov_id w_e187 (ov_id w_e191 (ov_id w_e188 (ov_id w_e183 (ov_id w_e181 (ov_c1 w_e180))))))) (hm hc hl2)
    obtain ⟨q5, q6⟩ := vi_inj (FR.det f2 hm)
    clear hm f1 f2 hx w_e182 w_e187 w_e191 w_e188 w_e183 w_e181 w_e180
    refine ⟨q5.trans q3.symm, ⟨bs, ts, ov_q q6 (ov_qa q4 rfl hlen rfl) rfl, ov_qa q6 rfl hl2 rfl, tp⟩, Or.inl ⟨(hq_obj (ov_q q6 (ov_qa q4 rfl hlen rfl) rfl)).trans rfl, (hq_obj (ov_q q6 (ov_qa q4 rfl hlen rfl) rfl)).trans rfl, vy0, vy1, vy2, vy3, vy4, vy5, vy6, vy7, vy8, vy9, vy10, vy11, vy12, vy13, vy14, vy15, vy16, vy17, ov_q q6 (ov_qa q4 rfl hlen rfl) rfl, ov_q q6 (ov_qa q4 rfl hlen rfl) rfl, ov_q q6 (ov_qa q4 rfl hlen rfl) rfl, ov_q q6 (ov_qa q4 rfl hlen rfl) rfl, ov_q q6 (ov_qa q4 rfl hlen rfl) rfl, ov_q q6 (ov_qa q4 rfl hlen rfl) rfl, ov_q q6 (ov_qa q4 rfl hlen rfl) rfl, ov_q q6 (ov_qa q4 rfl hlen rfl) rfl, ov_q q6 (ov_qa q4 rfl hlen rfl) rfl, ov_q q6 (ov_qa q4 rfl hlen rfl) rfl, lr5, ln5, df, fun j hj => ?_, fun j hj => ?_⟩, Int32.ofNat 0, (hq_obj (ov_q q6 (ov_qa q4 rfl hlen rfl) rfl)).trans rfl, (hq_obj (ov_qa q6 rfl hl2 rfl)).trans rfl⟩
    · rw [Nat.zero_add, hq_int (l := nw2) (t := 1) (ov_qa q6 rfl hl2 rfl), w3 j hj]
    · rw [Nat.zero_add, hq_lng (l := nz2) (t := 2) (ov_qa q6 rfl hl2 rfl), w4 j hj]
theorem ddu {hp hc hd : List AE} {r r2 : Int32} {k1 k2 : Nat} (G : hp_ok GG hp) (hlen : Nat.ble 204 hp.length = true) (D : DEEP hp) (hz : ∃ z : Int32, hq hp 1 1 = some (.int z) ∧ hq hp 180 2 = some (.int z)) (f1 : FR k1 14 [.ref 0] hp (some (.int r), hc)) (f2 : FR k2 195 [.ref 180] hc (some (.int r2), hd)) : r2 = r ∧ TPH hd ∧ CUR hd ∧ FLT hd := by
  have hs : hq hp 0 7 = some (.ref 110) ∨ hq hp 0 7 = some (.ref 115) := by
    obtain ⟨d, s, se, ss, lt, fb, tq, gb, e0, -, -, h, -⟩ := oc_0 G
    rcases h with rfl | rfl
    · exact Or.inl ((hq_obj e0).trans rfl)
    · exact Or.inr ((hq_obj e0).trans rfl)
  rcases D.2.1 with ⟨a1, a2, a3⟩ | ⟨a1, a2, a3⟩ <;> rcases hs with h | h
  · exact ddu13_110 G hlen D.1 hz a1 a2 h a3 f1 f2
  · exact ddu13_115 G hlen D.1 hz a1 a2 h a3 f1 f2
  · exact ddu3_110 G hlen D.1 hz a1 a2 h a3 f1 f2
  · exact ddu3_115 G hlen D.1 hz a1 a2 h a3 f1 f2
