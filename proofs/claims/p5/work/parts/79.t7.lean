/-! ===== the FAULT is kept alike ===== -/
theorem FR_ab {k mi : Nat} {As : List Value} {H : List AE} {l : List (Nat × AE)} {r : ev_R} (e : ov H l = H) (h : FR k mi As (ov H l) r) : FR k mi As H r := by
  rw [e] at h
  exact h
theorem RQ_ab {dd mi pc : Nat} {L : List (Nat × Value)} {st : List Value} {H : List AE} {l : List (Nat × AE)} {T : QT} (e : ov H l = H) (h : RQ dd mi pc L st (ov H l) T) : RQ dd mi pc L st H T := by
  rw [e] at h
  exact h
def bkW (V : WR) : Bool := wr_not V 180 && wr_not V 181 && wr_not V 182 && wr_not V 187 && wr_not V 200
theorem map_ib {l l2 : List Int32} {i j : Nat} (h : (l[i]?).map Value.int = (l2[j]?).map Value.int) : l[i]? = l2[j]? := by
  cases a : l[i]? <;> cases b : l2[j]? <;> rw [a, b] at h <;> first | rfl | (cases h; rfl) | cases h
theorem map_lb {l l2 : List Int64} {i j : Nat} (h : (l[i]?).map Value.long = (l2[j]?).map Value.long) : l[i]? = l2[j]? := by
  cases a : l[i]? <;> cases b : l2[j]? <;> rw [a, b] at h <;> first | rfl | (cases h; rfl) | cases h
theorem bflt3 {hp hc hd : List AE} {r r2 z1 : Int32} {k1 k2 : Nat} {V W : WR} (G : hp_ok GG hp) (hlen : Nat.ble 204 hp.length = true) (hlc : Nat.ble 204 hc.length = true) (hT : TPH hp) (hz : ∃ z : Int32, hq hp 1 1 = some (.int z) ∧ hq hp 180 2 = some (.int z)) (A : Agr V hp hc) (hv : bkW V = true) (A2 : Agr W hc hd) (hw2 : wr_off W 0 13 13 = true) (hz1 : z1 = Int32.ofNat 0 ∨ z1 = Int32.ofNat 1) (h0d : hq hp 0 1 = some (.ref 3)) (hD : DH3 hp 182 0 187 0) (f1 : FR k1 7 [.ref 0, .int z1] hp (some (.int r), hc)) (f2 : FR k2 181 [.ref 180, .int z1] hc (some (.int r2), hd)) : FLT hd := by
  obtain ⟨d, s, se, ss, lt, fb, tq, gb, e0, hd0, hs0, hse0, hss0⟩ := oc_0 G
  obtain ⟨n, lim, a, kd, pl, w, le, nu, tk, fa, fp, e1, hn, hw⟩ := oc_1 G
  obtain ⟨bs, ts, e2, e181, tpp⟩ := hT
  obtain ⟨p0, n2, sz, lim2, am, fr, kd2, nu2, sg, fa2, pl2, wd, td, vs, lm0, e180, hn2⟩ := oc_180b G
  obtain rfl : n = n2 := by
    obtain ⟨z, z1, z2⟩ := hz
    rw [hq_obj e1] at z1
    rw [hq_obj e180] at z2
    have y1 : some (Value.int (Int32.ofNat n)) = some (.int z) := z1
    have y2 : some (Value.int (Int32.ofNat n2)) = some (.int z) := z2
    have e := congrArg Int32.toInt (Value.int.inj (Option.some.inj (y1.trans y2.symm)))
    rw [n_int (by omega), n_int (by omega)] at e
    omega
  rw [hq_obj e0] at h0d
  have h0d : some (Value.ref d) = some (.ref 3) := h0d
  obtain rfl := Value.ref.inj (Option.some.inj h0d)
  obtain ⟨P, Dn, lw, cl, id, gl, bo, pn, ri, lf, wa, fo, dn, ha, pa, bl, rd, rn, g0, g1, g2, g3, g4, g5, g6, g7, g8, g9, y1, y2, df, y4, y5⟩ := hD
  obtain ⟨hP, hDn, hl, hN, hv0, -, -, -, -⟩ := df
  obtain ⟨c4, c5, c6, c7, c8, c9, c10, e105⟩ := oc_105 G
  obtain ⟨u1, -, l1, ea1⟩ := ai_of (hp := hp) (a := 106) (t := 1) (n := 40) (G.1 106 gc106 rfl).1
  obtain ⟨u2, -, l2, ea2⟩ := ai_of (hp := hp) (a := 107) (t := 1) (n := 40) (G.1 107 gc107 rfl).1
  obtain ⟨u3, -, l3, ea3⟩ := ai_of (hp := hp) (a := 108) (t := 1) (n := 40) (G.1 108 gc108 rfl).1
  obtain ⟨u4, -, l4, ea4⟩ := ai_of (hp := hp) (a := 109) (t := 1) (n := 40) (G.1 109 gc109 rfl).1
  obtain ⟨nw, -, kw, e182⟩ := ai_of (hp := hp) (a := 182) (t := 1) (n := 396) (G.1 182 gc182 rfl).1
  obtain ⟨nz, -, kz, e187⟩ := al_of (hp := hp) (a := 187) (t := 2) (n := 15) (G.1 187 gc187 rfl).1
  obtain ⟨li, -, ln, e200⟩ := ai_of (hp := hp) (a := 200) (t := 1) (n := 160) (G.1 200 gc200 rfl).1
  obtain ⟨B, hB, hM, hb⟩ := tp_B tpp
  have nr : ∀ j, j < 101 → nw[j]? = rd[j]? := fun j hj => map_ib (by rw [← y4 j hj, Nat.zero_add, hq_int e182])
  have nq : ∀ j, j < 15 → nz[j]? = rn[j]? := fun j hj => map_lb (by rw [← y5 j hj, Nat.zero_add, hq_lng e187])
  have hv1 := (nr 0 (by decide)).trans hv0.1
  have hv2 := (nr 1 (by decide)).trans hv0.2.1
  have hN1 : ∀ i, i < P → ∃ ss, nok ss ∧ pn[i]? = some (p5 ss) ∧ nz[0 + i]? = some (p27 ss) := fun i hi => by
    obtain ⟨ss, n1, n2, n3⟩ := hN.1 i hi
    exact ⟨ss, n1, n2, (nq _ (by omega)).trans n3⟩
  have hN2 : ∀ i, i < Dn → ∃ ss, nok ss ∧ dn[i]? = some (p5 ss) ∧ nz[7 + i]? = some (p27 ss) := fun i hi => by
    obtain ⟨ss, n1, n2, n3⟩ := hN.2 i hi
    exact ⟨ss, n1, n2, (nq _ (by omega)).trans n3⟩
  unfold bkW at hv
  simp only [Bool.and_eq_true] at hv
  obtain ⟨⟨⟨⟨v1, v2⟩, v3⟩, v4⟩, v5⟩ := hv
  have e105 : hp[105]? = some (bkr c4 (fun j => ([c5, c6, c7, c8, c9, c10] : List Int32).getD (j - 5) 0)) := e105
  obtain ⟨kk, hx, hm⟩ := bq3 (bs := bs) (ts := ts) (vs := vs) (bv := fun j => ([c5, c6, c7, c8, c9, c10] : List Int32).getD (j - 5) 0) (n := n) (P := P) (Dn := Dn) (lw := lw) (cl := cl) (id := id) (gl := gl) (bo := bo) (pn := pn) (ri := ri) (lf := lf) (wa := wa) (fo := fo) (dn := dn) (ha := ha) (pa := pa) (bl := bl) (nw := nw) (li := li) (u1 := u1) (u2 := u2) (u3 := u3) (u4 := u4) (nz := nz) (lim0 := lim) (a0 := a) (kd0 := kd) (pl0 := pl) (w0 := w) (le0 := le) (nu0 := nu) (tk0 := tk) (fa0 := fa) (fp0 := fp) (sz1 := sz) (lim1 := lim2) (a1x := am) (fr1 := fr) (kd1x := kd2) (lm0 := lm0) (p0 := p0) (nu1x := nu2) (sg1x := sg) (fa1 := fa2) (pl1x := pl2) (td1x := td) (wd1x := wd) (s0 := s) (se := se) (ss := ss) (lt := lt) (fb := fb) (tq := tq) (gb := gb) (c4 := c4) hB hM hb hn hP hDn hl.1 hl.2.2.2.2.2.1 kz hv1 hv2 hN1 hN2 l1 l2 l3 l4 ln hz1
  have ex : hq hc 0 13 = some (.int kk) := by
    rcases hx hp hlen with ⟨v, h2, h, g⟩ | ⟨L, hT2, h, g⟩
    · have h := FR_ab (ov_id e0 (ov_id e1 (ov_id e2 (ov_id g0 (ov_id g1 (ov_id g2 (ov_id g3 (ov_id g4 (ov_id g5 (ov_id g6 (ov_id g7 (ov_id g8 (ov_id g9 (ov_id e105 (ov_id ea1 (ov_id ea2 (ov_id ea3 (ov_c1 ea4)))))))))))))))))) h
      have e : hc = h2 := (vi_inj (FR.det f1 h)).2
      rw [e]
      exact g
    · have h := RQ_ab (ov_id e0 (ov_id e1 (ov_id e2 (ov_id g0 (ov_id g1 (ov_id g2 (ov_id g3 (ov_id g4 (ov_id g5 (ov_id g6 (ov_id g7 (ov_id g8 (ov_id g9 (ov_id e105 (ov_id ea1 (ov_id ea2 (ov_id ea3 (ov_c1 ea4)))))))))))))))))) h
      have k : KP 0 10 13 (.int kk) hc := kp_tail ks_c kt_c (Nat.le_refl 50) h f1 g
      obtain ⟨fs, k3, k4⟩ := k
      exact (hq_obj k3).trans k4
  have em : hq hd 180 10 = some (.int kk) := by
    rcases hm hc hlc with ⟨v, h2, h, g⟩ | ⟨L, hT2, h, g⟩
    · have h := FR_ab (ov_id (ce_obj (ag_ce A v1) e180) (ov_id (ce_int (ag_ce A v2) e181) (ov_id (ce_int (ag_ce A v3) e182) (ov_id (ce_lng (ag_ce A v4) e187) (ov_c1 (ce_int (ag_ce A v5) e200)))))) h
      have e : hd = h2 := (vi_inj (FR.det f2 h)).2
      rw [e]
      exact g
    · have h := RQ_ab (ov_id (ce_obj (ag_ce A v1) e180) (ov_id (ce_int (ag_ce A v2) e181) (ov_id (ce_int (ag_ce A v3) e182) (ov_id (ce_lng (ag_ce A v4) e187) (ov_c1 (ce_int (ag_ce A v5) e200)))))) h
      have k : KP 180 11 10 (.int kk) hd := kp_tail ks_r kt_r (Nat.le_refl 65) h f2 g
      obtain ⟨fs, k3, k4⟩ := k
      exact (hq_obj k3).trans k4
  exact ⟨kk, (ag_off A2 hw2 (Nat.le_refl 13) (Nat.le_refl 13)).trans ex, em⟩
theorem bflt13 {hp hc hd : List AE} {r r2 z1 : Int32} {k1 k2 : Nat} {V W : WR} (G : hp_ok GG hp) (hlen : Nat.ble 204 hp.length = true) (hlc : Nat.ble 204 hc.length = true) (hT : TPH hp) (hz : ∃ z : Int32, hq hp 1 1 = some (.int z) ∧ hq hp 180 2 = some (.int z)) (A : Agr V hp hc) (hv : bkW V = true) (A2 : Agr W hc hd) (hw2 : wr_off W 0 13 13 = true) (hz1 : z1 = Int32.ofNat 0 ∨ z1 = Int32.ofNat 1) (h0d : hq hp 0 1 = some (.ref 13)) (hD : DH13 hp 182 0 187 0) (f1 : FR k1 7 [.ref 0, .int z1] hp (some (.int r), hc)) (f2 : FR k2 181 [.ref 180, .int z1] hc (some (.int r2), hd)) : FLT hd := by
  obtain ⟨d, s, se, ss, lt, fb, tq, gb, e0, hd0, hs0, hse0, hss0⟩ := oc_0 G
  obtain ⟨n, lim, a, kd, pl, w, le, nu, tk, fa, fp, e1, hn, hw⟩ := oc_1 G
  obtain ⟨bs, ts, e2, e181, tpp⟩ := hT
  obtain ⟨p0, n2, sz, lim2, am, fr, kd2, nu2, sg, fa2, pl2, wd, td, vs, lm0, e180, hn2⟩ := oc_180b G
  obtain rfl : n = n2 := by
    obtain ⟨z, z1, z2⟩ := hz
    rw [hq_obj e1] at z1
    rw [hq_obj e180] at z2
    have y1 : some (Value.int (Int32.ofNat n)) = some (.int z) := z1
    have y2 : some (Value.int (Int32.ofNat n2)) = some (.int z) := z2
    have e := congrArg Int32.toInt (Value.int.inj (Option.some.inj (y1.trans y2.symm)))
    rw [n_int (by omega), n_int (by omega)] at e
    omega
  rw [hq_obj e0] at h0d
  have h0d : some (Value.ref d) = some (.ref 13) := h0d
  obtain rfl := Value.ref.inj (Option.some.inj h0d)
  obtain ⟨P, Dn, lw, cl, id, gl, bo, pn, ri, lf, wa, fo, dn, ha, pa, bl, rd, rn, g0, g1, g2, g3, g4, g5, g6, g7, g8, g9, y1, y2, df, y4, y5⟩ := hD
  obtain ⟨hP, hDn, hl, hN, hv0, -, -, -, -⟩ := df
  obtain ⟨c4, c5, c6, c7, c8, c9, c10, e105⟩ := oc_105 G
  obtain ⟨u1, -, l1, ea1⟩ := ai_of (hp := hp) (a := 106) (t := 1) (n := 40) (G.1 106 gc106 rfl).1
  obtain ⟨u2, -, l2, ea2⟩ := ai_of (hp := hp) (a := 107) (t := 1) (n := 40) (G.1 107 gc107 rfl).1
  obtain ⟨u3, -, l3, ea3⟩ := ai_of (hp := hp) (a := 108) (t := 1) (n := 40) (G.1 108 gc108 rfl).1
  obtain ⟨u4, -, l4, ea4⟩ := ai_of (hp := hp) (a := 109) (t := 1) (n := 40) (G.1 109 gc109 rfl).1
  obtain ⟨nw, -, kw, e182⟩ := ai_of (hp := hp) (a := 182) (t := 1) (n := 396) (G.1 182 gc182 rfl).1
  obtain ⟨nz, -, kz, e187⟩ := al_of (hp := hp) (a := 187) (t := 2) (n := 15) (G.1 187 gc187 rfl).1
  obtain ⟨li, -, ln, e200⟩ := ai_of (hp := hp) (a := 200) (t := 1) (n := 160) (G.1 200 gc200 rfl).1
  obtain ⟨B, hB, hM, hb⟩ := tp_B tpp
  have nr : ∀ j, j < 101 → nw[j]? = rd[j]? := fun j hj => map_ib (by rw [← y4 j hj, Nat.zero_add, hq_int e182])
  have nq : ∀ j, j < 15 → nz[j]? = rn[j]? := fun j hj => map_lb (by rw [← y5 j hj, Nat.zero_add, hq_lng e187])
  have hv1 := (nr 0 (by decide)).trans hv0.1
  have hv2 := (nr 1 (by decide)).trans hv0.2.1
  have hN1 : ∀ i, i < P → ∃ ss, nok ss ∧ pn[i]? = some (p5 ss) ∧ nz[0 + i]? = some (p27 ss) := fun i hi => by
    obtain ⟨ss, n1, n2, n3⟩ := hN.1 i hi
    exact ⟨ss, n1, n2, (nq _ (by omega)).trans n3⟩
  have hN2 : ∀ i, i < Dn → ∃ ss, nok ss ∧ dn[i]? = some (p5 ss) ∧ nz[7 + i]? = some (p27 ss) := fun i hi => by
    obtain ⟨ss, n1, n2, n3⟩ := hN.2 i hi
    exact ⟨ss, n1, n2, (nq _ (by omega)).trans n3⟩
  unfold bkW at hv
  simp only [Bool.and_eq_true] at hv
  obtain ⟨⟨⟨⟨v1, v2⟩, v3⟩, v4⟩, v5⟩ := hv
  have e105 : hp[105]? = some (bkr c4 (fun j => ([c5, c6, c7, c8, c9, c10] : List Int32).getD (j - 5) 0)) := e105
  obtain ⟨kk, hx, hm⟩ := bq13 (bs := bs) (ts := ts) (vs := vs) (bv := fun j => ([c5, c6, c7, c8, c9, c10] : List Int32).getD (j - 5) 0) (n := n) (P := P) (Dn := Dn) (lw := lw) (cl := cl) (id := id) (gl := gl) (bo := bo) (pn := pn) (ri := ri) (lf := lf) (wa := wa) (fo := fo) (dn := dn) (ha := ha) (pa := pa) (bl := bl) (nw := nw) (li := li) (u1 := u1) (u2 := u2) (u3 := u3) (u4 := u4) (nz := nz) (lim0 := lim) (a0 := a) (kd0 := kd) (pl0 := pl) (w0 := w) (le0 := le) (nu0 := nu) (tk0 := tk) (fa0 := fa) (fp0 := fp) (sz1 := sz) (lim1 := lim2) (a1x := am) (fr1 := fr) (kd1x := kd2) (lm0 := lm0) (p0 := p0) (nu1x := nu2) (sg1x := sg) (fa1 := fa2) (pl1x := pl2) (td1x := td) (wd1x := wd) (s0 := s) (se := se) (ss := ss) (lt := lt) (fb := fb) (tq := tq) (gb := gb) (c4 := c4) hB hM hb hn hP hDn hl.1 hl.2.2.2.2.2.1 kz hv1 hv2 hN1 hN2 l1 l2 l3 l4 ln hz1
  have ex : hq hc 0 13 = some (.int kk) := by
    rcases hx hp hlen with ⟨v, h2, h, g⟩ | ⟨L, hT2, h, g⟩
    · have h := FR_ab (ov_id e0 (ov_id e1 (ov_id e2 (ov_id g0 (ov_id g1 (ov_id g2 (ov_id g3 (ov_id g4 (ov_id g5 (ov_id g6 (ov_id g7 (ov_id g8 (ov_id g9 (ov_id e105 (ov_id ea1 (ov_id ea2 (ov_id ea3 (ov_c1 ea4)))))))))))))))))) h
      have e : hc = h2 := (vi_inj (FR.det f1 h)).2
      rw [e]
      exact g
    · have h := RQ_ab (ov_id e0 (ov_id e1 (ov_id e2 (ov_id g0 (ov_id g1 (ov_id g2 (ov_id g3 (ov_id g4 (ov_id g5 (ov_id g6 (ov_id g7 (ov_id g8 (ov_id g9 (ov_id e105 (ov_id ea1 (ov_id ea2 (ov_id ea3 (ov_c1 ea4)))))))))))))))))) h
      have k : KP 0 10 13 (.int kk) hc := kp_tail ks_c kt_c (Nat.le_refl 50) h f1 g
      obtain ⟨fs, k3, k4⟩ := k
      exact (hq_obj k3).trans k4
  have em : hq hd 180 10 = some (.int kk) := by
    rcases hm hc hlc with ⟨v, h2, h, g⟩ | ⟨L, hT2, h, g⟩
    · have h := FR_ab (ov_id (ce_obj (ag_ce A v1) e180) (ov_id (ce_int (ag_ce A v2) e181) (ov_id (ce_int (ag_ce A v3) e182) (ov_id (ce_lng (ag_ce A v4) e187) (ov_c1 (ce_int (ag_ce A v5) e200)))))) h
      have e : hd = h2 := (vi_inj (FR.det f2 h)).2
      rw [e]
      exact g
    · have h := RQ_ab (ov_id (ce_obj (ag_ce A v1) e180) (ov_id (ce_int (ag_ce A v2) e181) (ov_id (ce_int (ag_ce A v3) e182) (ov_id (ce_lng (ag_ce A v4) e187) (ov_c1 (ce_int (ag_ce A v5) e200)))))) h
      have k : KP 180 11 10 (.int kk) hd := kp_tail ks_r kt_r (Nat.le_refl 65) h f2 g
      obtain ⟨fs, k3, k4⟩ := k
      exact (hq_obj k3).trans k4
  exact ⟨kk, (ag_off A2 hw2 (Nat.le_refl 13) (Nat.le_refl 13)).trans ex, em⟩
theorem bflt {hp hc hd : List AE} {r r2 z1 : Int32} {k1 k2 : Nat} {V W : WR} (G : hp_ok GG hp) (hlen : Nat.ble 204 hp.length = true) (hlc : Nat.ble 204 hc.length = true) (D : DEEP hp) (hz : ∃ z : Int32, hq hp 1 1 = some (.int z) ∧ hq hp 180 2 = some (.int z)) (A : Agr V hp hc) (hv : bkW V = true) (A2 : Agr W hc hd) (hw2 : wr_off W 0 13 13 = true) (hz1 : z1 = Int32.ofNat 0 ∨ z1 = Int32.ofNat 1) (f1 : FR k1 7 [.ref 0, .int z1] hp (some (.int r), hc)) (f2 : FR k2 181 [.ref 180, .int z1] hc (some (.int r2), hd)) : FLT hd := by
  rcases D.2.1 with ⟨a1, -, a3⟩ | ⟨a1, -, a3⟩
  · exact bflt3 G hlen hlc D.1 hz A hv A2 hw2 hz1 a1 a3 f1 f2
  · exact bflt13 G hlen hlc D.1 hz A hv A2 hw2 hz1 a1 a3 f1 f2
theorem x_ft {H : List AE} (hlen : Nat.ble 204 H.length = true) {d : Nat} {s se ss : Nat} {lt fb tq gb : Int32} (h0 : H[0]? = some (.inr (10, [.ref 1, .ref d, .ref s, .ref 23, .ref 31, .ref 39, .ref 105, .ref se, .ref ss, .ref 120, .ref 125, .ref 129, .ref 131, .int lt, .int fb, .int tq, .int gb]))) : FR 1 17 [.ref 0] H (some (.int lt), ov H []) := by
  refine FR_ov (l := [(0, .inr (10, [.ref 1, .ref d, .ref s, .ref 23, .ref 31, .ref 39, .ref 105, .ref se, .ref ss, .ref 120, .ref 125, .ref 129, .ref 131, .int lt, .int fb, .int tq, .int gb]))]) (l2 := [(0, .inr (10, [.ref 1, .ref d, .ref s, .ref 23, .ref 31, .ref 39, .ref 105, .ref se, .ref ss, .ref 120, .ref 125, .ref 129, .ref 131, .int lt, .int fb, .int tq, .int gb]))]) (ov_c1 h0) rfl (ov_c1 h0) ?_
  refine RT_step (pc2 := 1) rfl (fun _ _ => rfl) ?_
  refine ow_gf rfl rfl rfl hlen rfl ?_
  exact ow_irt rfl rfl rfl
theorem m_ft {H : List AE} (hlen : Nat.ble 204 H.length = true) {p0 p2 nu sg fa pl td : Int32} {sz lim a fr kd : Nat} {wd : Int64} {pr : List Value} (h0 : H[180]? = some (mcl p0 p2 sz lim a fr kd nu sg fa pl wd td (pof pr))) : FR 1 198 [.ref 180] H (some (.int fa), ov H [(180, mcl (Int32.ofNat 0) p2 sz lim a fr kd nu sg fa pl wd td (pof pr))]) := by
  refine FR_ov (l := [(180, mcl p0 p2 sz lim a fr kd nu sg fa pl wd td (pof pr))]) (l2 := [(180, mcl (Int32.ofNat 0) p2 sz lim a fr kd nu sg fa pl wd td (pof pr))]) (ov_c1 h0) rfl rfl ?_
  refine RT_step (pc2 := 1) rfl (fun _ _ => rfl) ?_
  refine rt_ico rfl ki_0 ?_
  refine ow_pf rfl rfl rfl rfl rfl hlen rfl rfl ?_
  refine RT_step (pc2 := 6) rfl (fun _ _ => rfl) ?_
  refine ow_gf rfl rfl rfl hlen rfl ?_
  exact ow_irt rfl rfl rfl
theorem ft_eq {hp hc hd : List AE} {r r2 : Int32} {k1 k2 : Nat} (G : hp_ok GG hp) (hlen : Nat.ble 204 hp.length = true) (C : CUR hp) (hz : ∃ z : Int32, hq hp 1 1 = some (.int z) ∧ hq hp 180 2 = some (.int z)) (hg : EXT hp) (f1 : FR k1 17 [.ref 0] hp (some (.int r), hc)) (f2 : FR k2 198 [.ref 180] hc (some (.int r2), hd)) : r2 = r := by
  obtain ⟨d, s, se, ss, lt, fb, tq, gb, e0, hd0, hs0, hse0, hss0⟩ := oc_0 G
  obtain ⟨n, lim, a, kd, pl, w, le, nu, tk, fa, fp, e1, hn, hw⟩ := oc_1 G
  obtain ⟨p0, n2, sz, lim2, am, fr, kd2, nu2, sg, fa2, pl2, wd, td, sm, pr, e180, hn2⟩ := oc_180 G
  obtain rfl : n = n2 := by
    obtain ⟨z, z1, z2⟩ := hz
    rw [hq_obj e1] at z1
    rw [hq_obj e180] at z2
    have y1 : some (Value.int (Int32.ofNat n)) = some (.int z) := z1
    have y2 : some (Value.int (Int32.ofNat n2)) = some (.int z) := z2
    have e := congrArg Int32.toInt (Value.int.inj (Option.some.inj (y1.trans y2.symm)))
    rw [n_int (by omega), n_int (by omega)] at e
    omega
  obtain ⟨q3, q4⟩ := vi_inj (FR.det f1 (x_ft hlen e0))
  have q4 : hc = hp := q4
  subst q4
  obtain ⟨q5, -⟩ := vi_inj (FR.det f2 (m_ft hlen e180))
  obtain ⟨z, g1, g2⟩ := hg
  rw [hq_obj e0] at g1
  rw [hq_obj e180] at g2
  have g1 : some (Value.int lt) = some (.int z) := g1
  have g2 : some (Value.int fa2) = some (.int z) := g2
  have e := Value.int.inj (Option.some.inj (g1.trans g2.symm))
  rw [q3, q5, e]
theorem op_mkX {l : Launch} {b : Nat} {en ac : Nat → Nat} {D : va_G} {x m : Nat} {As : List Value} {hp hc hd : List AE} {r r2 : Int32} (h1 : ev_M l b en ac D MM 100 x (.ref 0 :: As) hp (some (.int r), hc)) (h2 : ev_M l b en ac D MM 100 m (.ref 180 :: As) hc (some (.int r2), hd)) (I : LInv hd) (g1 : hp_ok GG hp) (g2 : hp_ok GG hc) (X : XX hp → XX hd) : OpR l b en ac D x m As hp := by
  obtain ⟨fs, f1⟩ := hp_x g1
  obtain ⟨gs, f2⟩ := hp_m g2
  exact ⟨r, r2, hc, hd, fs, gs, h1, h2, I, f1, f2, X⟩
