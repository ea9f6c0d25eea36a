/-! ===== sentence(): both answer the same ===== -/
theorem aw_of {hp : List AE} {a t n : Nat} (h1 : hh hp a = some (2, t, n)) : ∃ l : List (Option Nat), l.length = n ∧ hp[a]? = some (.inl (t, .inr (.inr l))) := by
  obtain ⟨l, e1, e2⟩ := hh_ar h1
  exact ⟨l, e2, e1⟩
theorem map_lg {l l2 : List Int64} {i j : Nat} (h : (l[i]?).map Value.long = (l2[j]?).map Value.long) : l[i]? = l2[j]? := by
  cases a : l[i]? <;> cases b : l2[j]? <;> rw [a, b] at h <;> first | rfl | (cases h; rfl) | cases h
theorem FR_at2 {k mi : Nat} {As : List Value} {H : List AE} {l : List (Nat × AE)} {v : Int32} (e : ov H l = H) (h : ∃ h2, FR k mi As (ov H l) (some (.int v), h2)) : ∃ h2, FR k mi As H (some (.int v), h2) := by
  rw [e] at h
  exact h
theorem map_is {l l2 : List Int32} {i j : Nat} (h : (l[i]?).map Value.int = (l2[j]?).map Value.int) : l[i]? = l2[j]? := by
  cases a : l[i]? <;> cases b : l2[j]? <;> rw [a, b] at h <;> first | rfl | (cases h; rfl) | cases h
theorem FR_at3 {k mi : Nat} {As : List Value} {H : List AE} {l : List (Nat × AE)} {r : ev_R} (e : ov H l = H) (h : FR k mi As (ov H l) r) : FR k mi As H r := by
  rw [e] at h
  exact h
def sqW (V : WR) : Bool := wr_not V 180 && wr_not V 181 && wr_not V 182 && wr_not V 187 && wr_not V 202
theorem seq3_110 {hp hc hd : List AE} {r r2 : Int32} {k1 k2 : Nat} {V : WR} (G : hp_ok GG hp) (hlen : Nat.ble 204 hp.length = true) (hlc : Nat.ble 204 hc.length = true) (hT : TPH hp) (hz : ∃ z : Int32, hq hp 1 1 = some (.int z) ∧ hq hp 180 2 = some (.int z)) (A : Agr V hp hc) (hv : sqW V = true) (h0d : hq hp 0 1 = some (.ref 3)) (h0s : hq hp 0 8 = some (.ref 110)) (hD : DH3 hp 182 0 187 0) {W : WR} (A2 : Agr W hc hd) (hw2 : wr_off W 0 13 13 = true) (f1 : FR k1 38 [.ref 0] hp (some (.int r), hc)) (f2 : FR k2 273 [.ref 180] hc (some (.int r2), hd)) : FLT hd := by
  obtain ⟨d, s, se, ss, lt, fb, tq, gb, e0, hd0, hs0, hse0, hss0⟩ := oc_0 G
  obtain ⟨n, lim, a, kd, pl, w, le, nu, tk, fa, fp, e1, hn, hw⟩ := oc_1 G
  obtain ⟨bs, ts, e2, e181, tpp⟩ := hT
  obtain ⟨p0, n2, sz, lim2, am, fr, kd2, nu2, sg, fa2, pl2, wd, td, vs, nd1, on1, wi1, tp, e180, hn2, htp⟩ := oc_180s G
  obtain rfl : n = n2 := by
    obtain ⟨z, z1, z2⟩ := hz
    rw [hq_obj e1] at z1
    rw [hq_obj e180] at z2
    have y1 : some (Value.int (Int32.ofNat n)) = some (.int z) := z1
    have y2 : some (Value.int (Int32.ofNat n2)) = some (.int z) := z2
    have e := congrArg Int32.toInt (Value.int.inj (Option.some.inj (y1.trans y2.symm)))
    rw [n_int (by omega), n_int (by omega)] at e
    omega
  rw [hq_obj e0] at h0d h0s
  have h0d : some (Value.ref d) = some (.ref 3) := h0d
  have h0s : some (Value.ref ss) = some (.ref 110) := h0s
  obtain rfl := Value.ref.inj (Option.some.inj h0d)
  obtain rfl := Value.ref.inj (Option.some.inj h0s)
  obtain ⟨P, Dn, lw, cl, id, gl, bo, pn, ri, lf, wa, fo, dn, ha, pa, bl, rd, rn, g0, g1, g2, g3, g4, g5, g6, g7, g8, g9, y1, y2, df, y4, y5⟩ := hD
  obtain ⟨hP, hDn, hl, hN, hv0, -, -, -, -⟩ := df
  obtain ⟨c0, c1, es⟩ := oc_110 G
  obtain ⟨ws, lww, e1w⟩ := aw_of (hp := hp) (a := 111) (t := 4) (n := 40) (G.1 111 gc111 rfl).1
  obtain ⟨sgl, -, lg, e2s⟩ := ai_of (hp := hp) (a := 112) (t := 1) (n := 40) (G.1 112 gc112 rfl).1
  obtain ⟨nbl, -, lb, e3s⟩ := ai_of (hp := hp) (a := 113) (t := 1) (n := 40) (G.1 113 gc113 rfl).1
  obtain ⟨nw, -, kw, e182⟩ := ai_of (hp := hp) (a := 182) (t := 1) (n := 396) (G.1 182 gc182 rfl).1
  obtain ⟨nz, -, kz, e187⟩ := al_of (hp := hp) (a := 187) (t := 2) (n := 15) (G.1 187 gc187 rfl).1
  obtain ⟨nl, -, ln, e202⟩ := ai_of (hp := hp) (a := 202) (t := 1) (n := 240) (G.1 202 gc202 rfl).1
  obtain ⟨B, hB, hM, hb⟩ := tp_B tpp
  have nr : ∀ j, j < 101 → nw[j]? = rd[j]? := fun j hj => map_is (by rw [← y4 j hj, Nat.zero_add, hq_int e182])
  have nq : ∀ j, j < 15 → nz[j]? = rn[j]? := fun j hj => map_lg (by rw [← y5 j hj, Nat.zero_add, hq_lng e187])
  have hv1 := (nr 0 (by decide)).trans hv0.1
  have hN1 : ∀ i, i < P → ∃ ss, nok ss ∧ pn[i]? = some (p5 ss) ∧ nz[0 + i]? = some (p27 ss) := fun i hi => by
    obtain ⟨ss, n1, n2, n3⟩ := hN.1 i hi
    exact ⟨ss, n1, n2, (nq _ (by omega)).trans n3⟩
  unfold sqW at hv
  simp only [Bool.and_eq_true] at hv
  obtain ⟨⟨⟨⟨v1, v2⟩, v3⟩, v4⟩, v5⟩ := hv
  obtain ⟨v, kk, hx, hm⟩ := sq3_110 (bs := bs) (ts := ts) (vs := vs) (n := n) (P := P) (Dn := Dn) (lw := lw) (cl := cl) (id := id) (gl := gl) (bo := bo) (pn := pn) (ri := ri) (lf := lf) (wa := wa) (fo := fo) (dn := dn) (ha := ha) (pa := pa) (bl := bl) (nw := nw) (nz := nz) (lim0 := lim) (a0 := a) (kd0 := kd) (pl0 := pl) (w0 := w) (le0 := le) (nu0 := nu) (tk0 := tk) (fa0 := fa) (fp0 := fp) (sz1 := sz) (lim1 := lim2) (a1x := am) (fr1 := fr) (kd1x := kd2) (p0 := p0) (nu1x := nu2) (sg1x := sg) (fa1 := fa2) (pl1x := pl2) (td1x := td) (wd1x := wd) (nd1 := nd1) (on1 := on1) (wi1 := wi1) (tp := tp) (s0 := s) (se := se) (lt := lt) (fb := fb) (tq := tq) (gb := gb) (c0 := c0) (c1 := c1) (ws := ws) (sgl := sgl) (nbl := nbl) (nl := nl) hB hM hb hn hP hl.1 kz hv1 hN1 lww lg lb ln kw htp
  obtain ⟨h1, hx, gx⟩ := hx hp hlen
  have hx := FR_at3 (ov_id e0 (ov_id e1 (ov_id e2 (ov_id g0 (ov_id g1 (ov_id g2 (ov_id g3 (ov_id g4 (ov_id g5 (ov_id g6 (ov_id g7 (ov_id g8 (ov_id g9 (ov_id es (ov_id e1w (ov_id e2s (ov_c1 e3s))))))))))))))))) hx
  obtain ⟨h2, hm, gm⟩ := hm hc hlc
  have hm := FR_at3 (ov_id (ce_obj (ag_ce A v1) e180) (ov_id (ce_int (ag_ce A v2) e181) (ov_id (ce_int (ag_ce A v3) e182) (ov_id (ce_lng (ag_ce A v4) e187) (ov_c1 (ce_int (ag_ce A v5) e202)))))) hm
  have ec : hc = h1 := (vi_inj (FR.det f1 hx)).2
  have ed : hd = h2 := (vi_inj (FR.det f2 hm)).2
  exact ⟨kk, (ag_off A2 hw2 (Nat.le_refl 13) (Nat.le_refl 13)).trans (by rw [ec]; exact gx), by rw [ed]; exact gm⟩
theorem seq3_115 {hp hc hd : List AE} {r r2 : Int32} {k1 k2 : Nat} {V : WR} (G : hp_ok GG hp) (hlen : Nat.ble 204 hp.length = true) (hlc : Nat.ble 204 hc.length = true) (hT : TPH hp) (hz : ∃ z : Int32, hq hp 1 1 = some (.int z) ∧ hq hp 180 2 = some (.int z)) (A : Agr V hp hc) (hv : sqW V = true) (h0d : hq hp 0 1 = some (.ref 3)) (h0s : hq hp 0 8 = some (.ref 115)) (hD : DH3 hp 182 0 187 0) {W : WR} (A2 : Agr W hc hd) (hw2 : wr_off W 0 13 13 = true) (f1 : FR k1 38 [.ref 0] hp (some (.int r), hc)) (f2 : FR k2 273 [.ref 180] hc (some (.int r2), hd)) : FLT hd := by
  obtain ⟨d, s, se, ss, lt, fb, tq, gb, e0, hd0, hs0, hse0, hss0⟩ := oc_0 G
  obtain ⟨n, lim, a, kd, pl, w, le, nu, tk, fa, fp, e1, hn, hw⟩ := oc_1 G
  obtain ⟨bs, ts, e2, e181, tpp⟩ := hT
  obtain ⟨p0, n2, sz, lim2, am, fr, kd2, nu2, sg, fa2, pl2, wd, td, vs, nd1, on1, wi1, tp, e180, hn2, htp⟩ := oc_180s G
  obtain rfl : n = n2 := by
    obtain ⟨z, z1, z2⟩ := hz
    rw [hq_obj e1] at z1
    rw [hq_obj e180] at z2
    have y1 : some (Value.int (Int32.ofNat n)) = some (.int z) := z1
    have y2 : some (Value.int (Int32.ofNat n2)) = some (.int z) := z2
    have e := congrArg Int32.toInt (Value.int.inj (Option.some.inj (y1.trans y2.symm)))
    rw [n_int (by omega), n_int (by omega)] at e
    omega
  rw [hq_obj e0] at h0d h0s
  have h0d : some (Value.ref d) = some (.ref 3) := h0d
  have h0s : some (Value.ref ss) = some (.ref 115) := h0s
  obtain rfl := Value.ref.inj (Option.some.inj h0d)
  obtain rfl := Value.ref.inj (Option.some.inj h0s)
  obtain ⟨P, Dn, lw, cl, id, gl, bo, pn, ri, lf, wa, fo, dn, ha, pa, bl, rd, rn, g0, g1, g2, g3, g4, g5, g6, g7, g8, g9, y1, y2, df, y4, y5⟩ := hD
  obtain ⟨hP, hDn, hl, hN, hv0, -, -, -, -⟩ := df
  obtain ⟨c0, c1, es⟩ := oc_115 G
  obtain ⟨ws, lww, e1w⟩ := aw_of (hp := hp) (a := 116) (t := 4) (n := 40) (G.1 116 gc116 rfl).1
  obtain ⟨sgl, -, lg, e2s⟩ := ai_of (hp := hp) (a := 117) (t := 1) (n := 40) (G.1 117 gc117 rfl).1
  obtain ⟨nbl, -, lb, e3s⟩ := ai_of (hp := hp) (a := 118) (t := 1) (n := 40) (G.1 118 gc118 rfl).1
  obtain ⟨nw, -, kw, e182⟩ := ai_of (hp := hp) (a := 182) (t := 1) (n := 396) (G.1 182 gc182 rfl).1
  obtain ⟨nz, -, kz, e187⟩ := al_of (hp := hp) (a := 187) (t := 2) (n := 15) (G.1 187 gc187 rfl).1
  obtain ⟨nl, -, ln, e202⟩ := ai_of (hp := hp) (a := 202) (t := 1) (n := 240) (G.1 202 gc202 rfl).1
  obtain ⟨B, hB, hM, hb⟩ := tp_B tpp
  have nr : ∀ j, j < 101 → nw[j]? = rd[j]? := fun j hj => map_is (by rw [← y4 j hj, Nat.zero_add, hq_int e182])
  have nq : ∀ j, j < 15 → nz[j]? = rn[j]? := fun j hj => map_lg (by rw [← y5 j hj, Nat.zero_add, hq_lng e187])
  have hv1 := (nr 0 (by decide)).trans hv0.1
  have hN1 : ∀ i, i < P → ∃ ss, nok ss ∧ pn[i]? = some (p5 ss) ∧ nz[0 + i]? = some (p27 ss) := fun i hi => by
    obtain ⟨ss, n1, n2, n3⟩ := hN.1 i hi
    exact ⟨ss, n1, n2, (nq _ (by omega)).trans n3⟩
  unfold sqW at hv
  simp only [Bool.and_eq_true] at hv
  obtain ⟨⟨⟨⟨v1, v2⟩, v3⟩, v4⟩, v5⟩ := hv
  obtain ⟨v, kk, hx, hm⟩ := sq3_115 (bs := bs) (ts := ts) (vs := vs) (n := n) (P := P) (Dn := Dn) (lw := lw) (cl := cl) (id := id) (gl := gl) (bo := bo) (pn := pn) (ri := ri) (lf := lf) (wa := wa) (fo := fo) (dn := dn) (ha := ha) (pa := pa) (bl := bl) (nw := nw) (nz := nz) (lim0 := lim) (a0 := a) (kd0 := kd) (pl0 := pl) (w0 := w) (le0 := le) (nu0 := nu) (tk0 := tk) (fa0 := fa) (fp0 := fp) (sz1 := sz) (lim1 := lim2) (a1x := am) (fr1 := fr) (kd1x := kd2) (p0 := p0) (nu1x := nu2) (sg1x := sg) (fa1 := fa2) (pl1x := pl2) (td1x := td) (wd1x := wd) (nd1 := nd1) (on1 := on1) (wi1 := wi1) (tp := tp) (s0 := s) (se := se) (lt := lt) (fb := fb) (tq := tq) (gb := gb) (c0 := c0) (c1 := c1) (ws := ws) (sgl := sgl) (nbl := nbl) (nl := nl) hB hM hb hn hP hl.1 kz hv1 hN1 lww lg lb ln kw htp
  obtain ⟨h1, hx, gx⟩ := hx hp hlen
  have hx := FR_at3 (ov_id e0 (ov_id e1 (ov_id e2 (ov_id g0 (ov_id g1 (ov_id g2 (ov_id g3 (ov_id g4 (ov_id g5 (ov_id g6 (ov_id g7 (ov_id g8 (ov_id g9 (ov_id es (ov_id e1w (ov_id e2s (ov_c1 e3s))))))))))))))))) hx
  obtain ⟨h2, hm, gm⟩ := hm hc hlc
  have hm := FR_at3 (ov_id (ce_obj (ag_ce A v1) e180) (ov_id (ce_int (ag_ce A v2) e181) (ov_id (ce_int (ag_ce A v3) e182) (ov_id (ce_lng (ag_ce A v4) e187) (ov_c1 (ce_int (ag_ce A v5) e202)))))) hm
  have ec : hc = h1 := (vi_inj (FR.det f1 hx)).2
  have ed : hd = h2 := (vi_inj (FR.det f2 hm)).2
  exact ⟨kk, (ag_off A2 hw2 (Nat.le_refl 13) (Nat.le_refl 13)).trans (by rw [ec]; exact gx), by rw [ed]; exact gm⟩
theorem seq13_110 {hp hc hd : List AE} {r r2 : Int32} {k1 k2 : Nat} {V : WR} (G : hp_ok GG hp) (hlen : Nat.ble 204 hp.length = true) (hlc : Nat.ble 204 hc.length = true) (hT : TPH hp) (hz : ∃ z : Int32, hq hp 1 1 = some (.int z) ∧ hq hp 180 2 = some (.int z)) (A : Agr V hp hc) (hv : sqW V = true) (h0d : hq hp 0 1 = some (.ref 13)) (h0s : hq hp 0 8 = some (.ref 110)) (hD : DH13 hp 182 0 187 0) {W : WR} (A2 : Agr W hc hd) (hw2 : wr_off W 0 13 13 = true) (f1 : FR k1 38 [.ref 0] hp (some (.int r), hc)) (f2 : FR k2 273 [.ref 180] hc (some (.int r2), hd)) : FLT hd := by
  obtain ⟨d, s, se, ss, lt, fb, tq, gb, e0, hd0, hs0, hse0, hss0⟩ := oc_0 G
  obtain ⟨n, lim, a, kd, pl, w, le, nu, tk, fa, fp, e1, hn, hw⟩ := oc_1 G
  obtain ⟨bs, ts, e2, e181, tpp⟩ := hT
  obtain ⟨p0, n2, sz, lim2, am, fr, kd2, nu2, sg, fa2, pl2, wd, td, vs, nd1, on1, wi1, tp, e180, hn2, htp⟩ := oc_180s G
  obtain rfl : n = n2 := by
    obtain ⟨z, z1, z2⟩ := hz
    rw [hq_obj e1] at z1
    rw [hq_obj e180] at z2
    have y1 : some (Value.int (Int32.ofNat n)) = some (.int z) := z1
    have y2 : some (Value.int (Int32.ofNat n2)) = some (.int z) := z2
    have e := congrArg Int32.toInt (Value.int.inj (Option.some.inj (y1.trans y2.symm)))
    rw [n_int (by omega), n_int (by omega)] at e
    omega
  rw [hq_obj e0] at h0d h0s
  have h0d : some (Value.ref d) = some (.ref 13) := h0d
  have h0s : some (Value.ref ss) = some (.ref 110) := h0s
  obtain rfl := Value.ref.inj (Option.some.inj h0d)
  obtain rfl := Value.ref.inj (Option.some.inj h0s)
  obtain ⟨P, Dn, lw, cl, id, gl, bo, pn, ri, lf, wa, fo, dn, ha, pa, bl, rd, rn, g0, g1, g2, g3, g4, g5, g6, g7, g8, g9, y1, y2, df, y4, y5⟩ := hD
  obtain ⟨hP, hDn, hl, hN, hv0, -, -, -, -⟩ := df
  obtain ⟨c0, c1, es⟩ := oc_110 G
  obtain ⟨ws, lww, e1w⟩ := aw_of (hp := hp) (a := 111) (t := 4) (n := 40) (G.1 111 gc111 rfl).1
  obtain ⟨sgl, -, lg, e2s⟩ := ai_of (hp := hp) (a := 112) (t := 1) (n := 40) (G.1 112 gc112 rfl).1
  obtain ⟨nbl, -, lb, e3s⟩ := ai_of (hp := hp) (a := 113) (t := 1) (n := 40) (G.1 113 gc113 rfl).1
  obtain ⟨nw, -, kw, e182⟩ := ai_of (hp := hp) (a := 182) (t := 1) (n := 396) (G.1 182 gc182 rfl).1
  obtain ⟨nz, -, kz, e187⟩ := al_of (hp := hp) (a := 187) (t := 2) (n := 15) (G.1 187 gc187 rfl).1
  obtain ⟨nl, -, ln, e202⟩ := ai_of (hp := hp) (a := 202) (t := 1) (n := 240) (G.1 202 gc202 rfl).1
  obtain ⟨B, hB, hM, hb⟩ := tp_B tpp
  have nr : ∀ j, j < 101 → nw[j]? = rd[j]? := fun j hj => map_is (by rw [← y4 j hj, Nat.zero_add, hq_int e182])
  have nq : ∀ j, j < 15 → nz[j]? = rn[j]? := fun j hj => map_lg (by rw [← y5 j hj, Nat.zero_add, hq_lng e187])
  have hv1 := (nr 0 (by decide)).trans hv0.1
  have hN1 : ∀ i, i < P → ∃ ss, nok ss ∧ pn[i]? = some (p5 ss) ∧ nz[0 + i]? = some (p27 ss) := fun i hi => by
    obtain ⟨ss, n1, n2, n3⟩ := hN.1 i hi
    exact ⟨ss, n1, n2, (nq _ (by omega)).trans n3⟩
  unfold sqW at hv
  simp only [Bool.and_eq_true] at hv
  obtain ⟨⟨⟨⟨v1, v2⟩, v3⟩, v4⟩, v5⟩ := hv
  obtain ⟨v, kk, hx, hm⟩ := sq13_110 (bs := bs) (ts := ts) (vs := vs) (n := n) (P := P) (Dn := Dn) (lw := lw) (cl := cl) (id := id) (gl := gl) (bo := bo) (pn := pn) (ri := ri) (lf := lf) (wa := wa) (fo := fo) (dn := dn) (ha := ha) (pa := pa) (bl := bl) (nw := nw) (nz := nz) (lim0 := lim) (a0 := a) (kd0 := kd) (pl0 := pl) (w0 := w) (le0 := le) (nu0 := nu) (tk0 := tk) (fa0 := fa) (fp0 := fp) (sz1 := sz) (lim1 := lim2) (a1x := am) (fr1 := fr) (kd1x := kd2) (p0 := p0) (nu1x := nu2) (sg1x := sg) (fa1 := fa2) (pl1x := pl2) (td1x := td) (wd1x := wd) (nd1 := nd1) (on1 := on1) (wi1 := wi1) (tp := tp) (s0 := s) (se := se) (lt := lt) (fb := fb) (tq := tq) (gb := gb) (c0 := c0) (c1 := c1) (ws := ws) (sgl := sgl) (nbl := nbl) (nl := nl) hB hM hb hn hP hl.1 kz hv1 hN1 lww lg lb ln kw htp
  obtain ⟨h1, hx, gx⟩ := hx hp hlen
  have hx := FR_at3 (ov_id e0 (ov_id e1 (ov_id e2 (ov_id g0 (ov_id g1 (ov_id g2 (ov_id g3 (ov_id g4 (ov_id g5 (ov_id g6 (ov_id g7 (ov_id g8 (ov_id g9 (ov_id es (ov_id e1w (ov_id e2s (ov_c1 e3s))))))))))))))))) hx
  obtain ⟨h2, hm, gm⟩ := hm hc hlc
  have hm := FR_at3 (ov_id (ce_obj (ag_ce A v1) e180) (ov_id (ce_int (ag_ce A v2) e181) (ov_id (ce_int (ag_ce A v3) e182) (ov_id (ce_lng (ag_ce A v4) e187) (ov_c1 (ce_int (ag_ce A v5) e202)))))) hm
  have ec : hc = h1 := (vi_inj (FR.det f1 hx)).2
  have ed : hd = h2 := (vi_inj (FR.det f2 hm)).2
  exact ⟨kk, (ag_off A2 hw2 (Nat.le_refl 13) (Nat.le_refl 13)).trans (by rw [ec]; exact gx), by rw [ed]; exact gm⟩
theorem seq13_115 {hp hc hd : List AE} {r r2 : Int32} {k1 k2 : Nat} {V : WR} (G : hp_ok GG hp) (hlen : Nat.ble 204 hp.length = true) (hlc : Nat.ble 204 hc.length = true) (hT : TPH hp) (hz : ∃ z : Int32, hq hp 1 1 = some (.int z) ∧ hq hp 180 2 = some (.int z)) (A : Agr V hp hc) (hv : sqW V = true) (h0d : hq hp 0 1 = some (.ref 13)) (h0s : hq hp 0 8 = some (.ref 115)) (hD : DH13 hp 182 0 187 0) {W : WR} (A2 : Agr W hc hd) (hw2 : wr_off W 0 13 13 = true) (f1 : FR k1 38 [.ref 0] hp (some (.int r), hc)) (f2 : FR k2 273 [.ref 180] hc (some (.int r2), hd)) : FLT hd := by
  obtain ⟨d, s, se, ss, lt, fb, tq, gb, e0, hd0, hs0, hse0, hss0⟩ := oc_0 G
  obtain ⟨n, lim, a, kd, pl, w, le, nu, tk, fa, fp, e1, hn, hw⟩ := oc_1 G
  obtain ⟨bs, ts, e2, e181, tpp⟩ := hT
  obtain ⟨p0, n2, sz, lim2, am, fr, kd2, nu2, sg, fa2, pl2, wd, td, vs, nd1, on1, wi1, tp, e180, hn2, htp⟩ := oc_180s G
  obtain rfl : n = n2 := by
    obtain ⟨z, z1, z2⟩ := hz
    rw [hq_obj e1] at z1
    rw [hq_obj e180] at z2
    have y1 : some (Value.int (Int32.ofNat n)) = some (.int z) := z1
    have y2 : some (Value.int (Int32.ofNat n2)) = some (.int z) := z2
    have e := congrArg Int32.toInt (Value.int.inj (Option.some.inj (y1.trans y2.symm)))
    rw [n_int (by omega), n_int (by omega)] at e
    omega
  rw [hq_obj e0] at h0d h0s
  have h0d : some (Value.ref d) = some (.ref 13) := h0d
  have h0s : some (Value.ref ss) = some (.ref 115) := h0s
  obtain rfl := Value.ref.inj (Option.some.inj h0d)
  obtain rfl := Value.ref.inj (Option.some.inj h0s)
  obtain ⟨P, Dn, lw, cl, id, gl, bo, pn, ri, lf, wa, fo, dn, ha, pa, bl, rd, rn, g0, g1, g2, g3, g4, g5, g6, g7, g8, g9, y1, y2, df, y4, y5⟩ := hD
  obtain ⟨hP, hDn, hl, hN, hv0, -, -, -, -⟩ := df
  obtain ⟨c0, c1, es⟩ := oc_115 G
  obtain ⟨ws, lww, e1w⟩ := aw_of (hp := hp) (a := 116) (t := 4) (n := 40) (G.1 116 gc116 rfl).1
  obtain ⟨sgl, -, lg, e2s⟩ := ai_of (hp := hp) (a := 117) (t := 1) (n := 40) (G.1 117 gc117 rfl).1
  obtain ⟨nbl, -, lb, e3s⟩ := ai_of (hp := hp) (a := 118) (t := 1) (n := 40) (G.1 118 gc118 rfl).1
  obtain ⟨nw, -, kw, e182⟩ := ai_of (hp := hp) (a := 182) (t := 1) (n := 396) (G.1 182 gc182 rfl).1
  obtain ⟨nz, -, kz, e187⟩ := al_of (hp := hp) (a := 187) (t := 2) (n := 15) (G.1 187 gc187 rfl).1
  obtain ⟨nl, -, ln, e202⟩ := ai_of (hp := hp) (a := 202) (t := 1) (n := 240) (G.1 202 gc202 rfl).1
  obtain ⟨B, hB, hM, hb⟩ := tp_B tpp
  have nr : ∀ j, j < 101 → nw[j]? = rd[j]? := fun j hj => map_is (by rw [← y4 j hj, Nat.zero_add, hq_int e182])
  have nq : ∀ j, j < 15 → nz[j]? = rn[j]? := fun j hj => map_lg (by rw [← y5 j hj, Nat.zero_add, hq_lng e187])
  have hv1 := (nr 0 (by decide)).trans hv0.1
  have hN1 : ∀ i, i < P → ∃ ss, nok ss ∧ pn[i]? = some (p5 ss) ∧ nz[0 + i]? = some (p27 ss) := fun i hi => by
    obtain ⟨ss, n1, n2, n3⟩ := hN.1 i hi
    exact ⟨ss, n1, n2, (nq _ (by omega)).trans n3⟩
  unfold sqW at hv
  simp only [Bool.and_eq_true] at hv
  obtain ⟨⟨⟨⟨v1, v2⟩, v3⟩, v4⟩, v5⟩ := hv
  obtain ⟨v, kk, hx, hm⟩ := sq13_115 (bs := bs) (ts := ts) (vs := vs) (n := n) (P := P) (Dn := Dn) (lw := lw) (cl := cl) (id := id) (gl := gl) (bo := bo) (pn := pn) (ri := ri) (lf := lf) (wa := wa) (fo := fo) (dn := dn) (ha := ha) (pa := pa) (bl := bl) (nw := nw) (nz := nz) (lim0 := lim) (a0 := a) (kd0 := kd) (pl0 := pl) (w0 := w) (le0 := le) (nu0 := nu) (tk0 := tk) (fa0 := fa) (fp0 := fp) (sz1 := sz) (lim1 := lim2) (a1x := am) (fr1 := fr) (kd1x := kd2) (p0 := p0) (nu1x := nu2) (sg1x := sg) (fa1 := fa2) (pl1x := pl2) (td1x := td) (wd1x := wd) (nd1 := nd1) (on1 := on1) (wi1 := wi1) (tp := tp) (s0 := s) (se := se) (lt := lt) (fb := fb) (tq := tq) (gb := gb) (c0 := c0) (c1 := c1) (ws := ws) (sgl := sgl) (nbl := nbl) (nl := nl) hB hM hb hn hP hl.1 kz hv1 hN1 lww lg lb ln kw htp
  obtain ⟨h1, hx, gx⟩ := hx hp hlen
  have hx := FR_at3 (ov_id e0 (ov_id e1 (ov_id e2 (ov_id g0 (ov_id g1 (ov_id g2 (ov_id g3 (ov_id g4 (ov_id g5 (ov_id g6 (ov_id g7 (ov_id g8 (ov_id g9 (ov_id es (ov_id e1w (ov_id e2s (ov_c1 e3s))))))))))))))))) hx
  obtain ⟨h2, hm, gm⟩ := hm hc hlc
  have hm := FR_at3 (ov_id (ce_obj (ag_ce A v1) e180) (ov_id (ce_int (ag_ce A v2) e181) (ov_id (ce_int (ag_ce A v3) e182) (ov_id (ce_lng (ag_ce A v4) e187) (ov_c1 (ce_int (ag_ce A v5) e202)))))) hm
  have ec : hc = h1 := (vi_inj (FR.det f1 hx)).2
  have ed : hd = h2 := (vi_inj (FR.det f2 hm)).2
  exact ⟨kk, (ag_off A2 hw2 (Nat.le_refl 13) (Nat.le_refl 13)).trans (by rw [ec]; exact gx), by rw [ed]; exact gm⟩
theorem se_eq {hp hc hd : List AE} {r r2 : Int32} {k1 k2 : Nat} {V : WR} (G : hp_ok GG hp) (hlen : Nat.ble 204 hp.length = true) (hlc : Nat.ble 204 hc.length = true) (D : DEEP hp) (hz : ∃ z : Int32, hq hp 1 1 = some (.int z) ∧ hq hp 180 2 = some (.int z)) (A : Agr V hp hc) (hv : sqW V = true) {W : WR} (A2 : Agr W hc hd) (hw2 : wr_off W 0 13 13 = true) (f1 : FR k1 38 [.ref 0] hp (some (.int r), hc)) (f2 : FR k2 273 [.ref 180] hc (some (.int r2), hd)) : FLT hd := by
  have hs : hq hp 0 8 = some (.ref 110) ∨ hq hp 0 8 = some (.ref 115) := by
    obtain ⟨d, s, se, ss, lt, fb, tq, gb, e0, -, -, -, h⟩ := oc_0 G
    rcases h with rfl | rfl
    · exact Or.inl ((hq_obj e0).trans rfl)
    · exact Or.inr ((hq_obj e0).trans rfl)
  rcases D.2.1 with ⟨a1, -, a3⟩ | ⟨a1, -, a3⟩ <;> rcases hs with h | h
  · exact seq3_110 G hlen hlc D.1 hz A hv a1 h a3 A2 hw2 f1 f2
  · exact seq3_115 G hlen hlc D.1 hz A hv a1 h a3 A2 hw2 f1 f2
  · exact seq13_110 G hlen hlc D.1 hz A hv a1 h a3 A2 hw2 f1 f2
  · exact seq13_115 G hlen hlc D.1 hz A hv a1 h a3 A2 hw2 f1 f2
