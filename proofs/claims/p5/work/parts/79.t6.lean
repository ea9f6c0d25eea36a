/-! ===== book(): the FAULT, both ===== -/
def bkr (c4 : Int32) (bv : Nat → Int32) : AE := .inr (0, [.ref 106, .ref 107, .ref 108, .ref 109, .int c4, .int (bv 5), .int (bv 6), .int (bv 7), .int (bv 8), .int (bv 9), .int (bv 10)])
theorem oy_cons0 {H : List AE} {c : AE} {l : List (Nat × AE)} (h0 : (l.map Prod.fst).all (fun k => !(Nat.beq k 0)) = true) : ov H ((0, c) :: l) = ov (H.set 0 c) l := by
  induction l with
  | nil => rfl
  | cons q t ih =>
    rw [List.map_cons, List.all_cons, Bool.and_eq_true] at h0
    have hne : q.1 ≠ 0 := fun e => by rw [e] at h0; exact absurd h0.1 (by decide)
    show ((ov H t).set q.1 q.2).set 0 c = (ov (H.set 0 c) t).set q.1 q.2
    rw [← ih h0.2, List.set_comm _ _ hne]
    rfl
theorem oy_cons2 {H : List AE} {c : AE} {l r : List (Nat × AE)} (hl : (l.map Prod.fst).all (fun k => !(Nat.beq k 0)) = true) (hr : (r.map Prod.fst).all (fun k => !(Nat.beq k 0)) = true) : ov (ov H ((0, c) :: l)) ((0, c) :: r) = ov (ov (H.set 0 c) l) r := by
  rw [oy_cons0 hr, oy_cons0 hl]
  congr 1
  show (ov (H.set 0 c) l).set 0 c = ov (H.set 0 c) l
  rw [← oy_cons0 hl]
  show ((ov H l).set 0 c).set 0 c = (ov H l).set 0 c
  rw [List.set_set]
theorem lr_y0 {k mi : Nat} {As : List Value} {v : Option Value} {c : AE} {H : List AE} {l r : List (Nat × AE)} (h : ∀ H : List AE, Nat.ble 204 H.length = true → FR k mi As (ov H l) (v, ov (ov H l) r)) (hlen : Nat.ble 204 H.length = true) (hl : (l.map Prod.fst).all (fun k => !(Nat.beq k 0)) = true := by rfl) (hr : (r.map Prod.fst).all (fun k => !(Nat.beq k 0)) = true := by rfl) : FR k mi As (ov H ((0, c) :: l)) (v, ov (ov H ((0, c) :: l)) ((0, c) :: r)) := by
  rw [oy_cons2 hl hr, oy_cons0 hl]
  exact h _ (by rw [List.length_set]; exact hlen)
theorem m_isIb {H : List AE} {a b c : Int32} (h1 : ¬ a < b) (h2 : ¬ c < a) : FR 1 218 [.int a, .int b, .int c] H (some (.int (Int32.ofNat 1)), ov H []) := by
  refine FR_of rfl ?_
  refine RT_step (pc2 := 1) rfl (fun _ _ => rfl) ?_
  refine RT_step (pc2 := 2) rfl (fun _ _ => rfl) ?_
  refine biF_lt rfl h1 ?_
  refine RT_step (pc2 := 6) rfl (fun _ _ => rfl) ?_
  refine RT_step (pc2 := 7) rfl (fun _ _ => rfl) ?_
  refine biF_gt rfl h2 ?_
  refine rt_ico rfl ki_1 ?_
  refine RT_step (pc2 := 15) rfl (fun _ _ => rfl) ?_
  exact ow_irt rfl rfl rfl
theorem oc_105 {hp : List AE} (h : hp_ok GG hp) : ∃ (c4 : Int32) (c5 : Int32) (c6 : Int32) (c7 : Int32) (c8 : Int32) (c9 : Int32) (c10 : Int32), hp[105]? = some (.inr (0, [.ref 106, .ref 107, .ref 108, .ref 109, .int c4, .int c5, .int c6, .int c7, .int c8, .int c9, .int c10])) := by
  obtain ⟨q1, q2⟩ := h.1 105 gc105 rfl
  obtain ⟨fs, e1, e2⟩ := hh_obj q1
  have g : ∀ i v, fs[i]? = some v → ∀ ft, lkp gc105.2.2 i = some ft → ft_ok ft v := fun i v hv ft hf => (q2 i v (by unfold hq; rw [e1]; exact hv)).2 ft hf
  obtain ⟨f0, fs0, rfl, k0⟩ := len_s e2
  obtain ⟨f1, fs1, rfl, k1⟩ := len_s k0
  obtain ⟨f2, fs2, rfl, k2⟩ := len_s k1
  obtain ⟨f3, fs3, rfl, k3⟩ := len_s k2
  obtain ⟨f4, fs4, rfl, k4⟩ := len_s k3
  obtain ⟨f5, fs5, rfl, k5⟩ := len_s k4
  obtain ⟨f6, fs6, rfl, k6⟩ := len_s k5
  obtain ⟨f7, fs7, rfl, k7⟩ := len_s k6
  obtain ⟨f8, fs8, rfl, k8⟩ := len_s k7
  obtain ⟨f9, fs9, rfl, k9⟩ := len_s k8
  obtain ⟨f10, fs10, rfl, k10⟩ := len_s k9
  obtain rfl := len_0 k10
  obtain rfl : f0 = .ref 106 := g 0 f0 rfl _ rfl
  obtain rfl : f1 = .ref 107 := g 1 f1 rfl _ rfl
  obtain rfl : f2 = .ref 108 := g 2 f2 rfl _ rfl
  obtain rfl : f3 = .ref 109 := g 3 f3 rfl _ rfl
  obtain ⟨x4, rfl, b4, d4⟩ := g 4 f4 rfl _ rfl
  obtain ⟨x5, rfl, b5, d5⟩ := g 5 f5 rfl _ rfl
  obtain ⟨x6, rfl, b6, d6⟩ := g 6 f6 rfl _ rfl
  obtain ⟨x7, rfl, b7, d7⟩ := g 7 f7 rfl _ rfl
  obtain ⟨x8, rfl, b8, d8⟩ := g 8 f8 rfl _ rfl
  obtain ⟨x9, rfl, b9, d9⟩ := g 9 f9 rfl _ rfl
  obtain ⟨x10, rfl, b10, d10⟩ := g 10 f10 rfl _ rfl
  exact ⟨x4, x5, x6, x7, x8, x9, x10, e1⟩
theorem oc_180b {hp : List AE} (h : hp_ok GG hp) : ∃ (p0 : Int32) (n sz lim a fr kd : Nat) (nu sg fa pl : Int32) (wd : Int64) (td : Int32) (vs : Nat → Value) (lm : Nat), hp[180]? = some (mcl p0 (Int32.ofNat n) sz lim a fr kd nu sg fa pl wd td (posb vs lm)) ∧ n ≤ 940 := by
  obtain ⟨q1, q2⟩ := h.1 180 gc180 rfl
  obtain ⟨fs, e1, e2⟩ := hh_obj q1
  have g : ∀ i v, fs[i]? = some v → ∀ ft, lkp gc180.2.2 i = some ft → ft_ok ft v := fun i v hv ft hf => (q2 i v (by unfold hq; rw [e1]; exact hv)).2 ft hf
  obtain ⟨f0, fs0, rfl, k0⟩ := len_s e2
  obtain ⟨f1, fs1, rfl, k1⟩ := len_s k0
  obtain ⟨f2, fs2, rfl, k2⟩ := len_s k1
  obtain ⟨f3, fs3, rfl, k3⟩ := len_s k2
  obtain ⟨f4, fs4, rfl, k4⟩ := len_s k3
  obtain ⟨f5, fs5, rfl, k5⟩ := len_s k4
  obtain ⟨f6, fs6, rfl, k6⟩ := len_s k5
  obtain ⟨f7, fs7, rfl, k7⟩ := len_s k6
  obtain ⟨f8, fs8, rfl, k8⟩ := len_s k7
  obtain ⟨f9, fs9, rfl, k9⟩ := len_s k8
  obtain ⟨f10, fs10, rfl, k10⟩ := len_s k9
  obtain ⟨f11, fs11, rfl, k11⟩ := len_s k10
  obtain ⟨f12, fs12, rfl, k12⟩ := len_s k11
  obtain ⟨f13, fs13, rfl, k13⟩ := len_s k12
  obtain ⟨f14, fs14, rfl, k14⟩ := len_s k13
  obtain ⟨f15, fs15, rfl, k15⟩ := len_s k14
  obtain ⟨f16, fs16, rfl, k16⟩ := len_s k15
  obtain ⟨f17, fs17, rfl, k17⟩ := len_s k16
  obtain ⟨f18, fs18, rfl, k18⟩ := len_s k17
  obtain ⟨f19, fs19, rfl, k19⟩ := len_s k18
  obtain ⟨f20, fs20, rfl, k20⟩ := len_s k19
  obtain ⟨f21, fs21, rfl, k21⟩ := len_s k20
  obtain ⟨f22, fs22, rfl, k22⟩ := len_s k21
  obtain ⟨f23, fs23, rfl, k23⟩ := len_s k22
  obtain ⟨f24, fs24, rfl, k24⟩ := len_s k23
  obtain ⟨f25, fs25, rfl, k25⟩ := len_s k24
  obtain ⟨f26, fs26, rfl, k26⟩ := len_s k25
  obtain ⟨f27, fs27, rfl, k27⟩ := len_s k26
  obtain ⟨f28, fs28, rfl, k28⟩ := len_s k27
  obtain ⟨f29, fs29, rfl, k29⟩ := len_s k28
  obtain ⟨f30, fs30, rfl, k30⟩ := len_s k29
  obtain ⟨f31, fs31, rfl, k31⟩ := len_s k30
  obtain ⟨f32, fs32, rfl, k32⟩ := len_s k31
  obtain ⟨f33, fs33, rfl, k33⟩ := len_s k32
  obtain ⟨f34, fs34, rfl, k34⟩ := len_s k33
  obtain ⟨f35, fs35, rfl, k35⟩ := len_s k34
  obtain ⟨f36, fs36, rfl, k36⟩ := len_s k35
  obtain ⟨f37, fs37, rfl, k37⟩ := len_s k36
  obtain ⟨f38, fs38, rfl, k38⟩ := len_s k37
  obtain ⟨f39, fs39, rfl, k39⟩ := len_s k38
  obtain ⟨f40, fs40, rfl, k40⟩ := len_s k39
  obtain ⟨f41, fs41, rfl, k41⟩ := len_s k40
  obtain ⟨f42, fs42, rfl, k42⟩ := len_s k41
  obtain ⟨f43, fs43, rfl, k43⟩ := len_s k42
  obtain ⟨f44, fs44, rfl, k44⟩ := len_s k43
  obtain ⟨f45, fs45, rfl, k45⟩ := len_s k44
  obtain ⟨f46, fs46, rfl, k46⟩ := len_s k45
  obtain ⟨f47, fs47, rfl, k47⟩ := len_s k46
  obtain ⟨f48, fs48, rfl, k48⟩ := len_s k47
  obtain ⟨f49, fs49, rfl, k49⟩ := len_s k48
  obtain ⟨f50, fs50, rfl, k50⟩ := len_s k49
  obtain ⟨f51, fs51, rfl, k51⟩ := len_s k50
  obtain rfl := len_0 k51
  obtain ⟨x0, rfl, b0, d0⟩ := g 0 f0 rfl _ rfl
  obtain ⟨x8, rfl, b8, d8⟩ := g 8 f8 rfl _ rfl
  obtain ⟨x9, rfl, b9, d9⟩ := g 9 f9 rfl _ rfl
  obtain ⟨x10, rfl, b10, d10⟩ := g 10 f10 rfl _ rfl
  obtain ⟨x11, rfl, b11, d11⟩ := g 11 f11 rfl _ rfl
  obtain ⟨x13, rfl, b13, d13⟩ := g 13 f13 rfl _ rfl
  obtain ⟨x12, rfl, -, -⟩ := g 12 f12 rfl _ rfl
  obtain ⟨x3, rfl, b3, d3⟩ := g 3 f3 rfl _ rfl
  obtain ⟨m3, rfl⟩ := i32_nat x3
  obtain ⟨x4, rfl, b4, d4⟩ := g 4 f4 rfl _ rfl
  obtain ⟨m4, rfl⟩ := i32_nat x4
  obtain ⟨x5, rfl, b5, d5⟩ := g 5 f5 rfl _ rfl
  obtain ⟨m5, rfl⟩ := i32_nat x5
  obtain ⟨x6, rfl, b6, d6⟩ := g 6 f6 rfl _ rfl
  obtain ⟨m6, rfl⟩ := i32_nat x6
  obtain ⟨x7, rfl, b7, d7⟩ := g 7 f7 rfl _ rfl
  obtain ⟨m7, rfl⟩ := i32_nat x7
  obtain ⟨x45, rfl, b45, d45⟩ := g 45 f45 rfl _ rfl
  obtain ⟨m45, rfl⟩ := i32_nat x45
  obtain ⟨x2, rfl, b2, d2⟩ := g 2 f2 rfl _ rfl
  have z2 := i32_nz b2
  generalize hq2 : x2.toInt.toNat = m2 at z2
  have w2 : m2 ≤ 940 := by omega
  subst z2
  obtain rfl : f1 = .ref 181 := g 1 f1 rfl _ rfl
  obtain rfl : f43 = .ref 200 := g 43 f43 rfl _ rfl
  obtain rfl : f14 = .ref 182 := g 14 f14 rfl _ rfl
  obtain rfl : f15 = .ref 183 := g 15 f15 rfl _ rfl
  obtain rfl : f16 = .ref 184 := g 16 f16 rfl _ rfl
  obtain rfl : f17 = .ref 185 := g 17 f17 rfl _ rfl
  obtain rfl : f18 = .ref 186 := g 18 f18 rfl _ rfl
  obtain rfl : f19 = .ref 187 := g 19 f19 rfl _ rfl
  obtain rfl : f20 = .ref 188 := g 20 f20 rfl _ rfl
  obtain rfl : f21 = .ref 189 := g 21 f21 rfl _ rfl
  obtain rfl : f22 = .ref 190 := g 22 f22 rfl _ rfl
  obtain rfl : f23 = .ref 191 := g 23 f23 rfl _ rfl
  exact ⟨x0, m2, m3, m4, m5, m6, m7, x8, x9, x10, x11, x12, x13, fun j => ([f24, f25, f26, f27, f28, f29, f30, f31, f32, f33, f34, f35, f36, f37, f38, f39, f40, f41, f42, .null, f44, .null, f46, f47, f48, f49, f50, f51] : List Value).getD (j - 24) .null, m45, e1, w2⟩
theorem bq3 {B : Nat → Nat} {bs ts : List Int32} {vs : Nat → Value} {bv : Nat → Int32} {n : Nat} {P : Nat} {Dn : Nat} {lw : Int32} {cl : Int32} {id : Int32} {gl : Nat} {bo : Nat} {pn : List Int64} {ri : List Int32} {lf : List Int32} {wa : List Int32} {fo : List Int32} {dn : List Int64} {ha : List Int32} {pa : List Int32} {bl : List Int32} {nw li u1 u2 u3 u4 : List Int32} {nz : List Int64} {lim0 a0 kd0 pl0 w0 : Nat} {le0 : Int64} {nu0 tk0 fa0 fp0 : Int32} {sz1 lim1 a1x fr1 kd1x lm0 : Nat} {p0 nu1x sg1x fa1 pl1x td1x : Int32} {wd1x : Int64} {s0 se ss : Nat} {lt fb tq gb c4 z : Int32} (hB : BY bs B) (hM : MY ts B) (hb : ∀ i, B i < 256) (hn : n ≤ 940) (hP : P ≤ 7) (hDn : Dn ≤ 8) (lp : pn.length = 7) (ld : dn.length = 8) (lz : nz.length = 15) (hv : nw[0]? = some (Int32.ofNat P)) (hv1 : nw[1]? = some (Int32.ofNat Dn)) (hN : ∀ i, i < P → ∃ ss, nok ss ∧ pn[i]? = some (p5 ss) ∧ nz[0 + i]? = some (p27 ss)) (hN2 : ∀ i, i < Dn → ∃ ss, nok ss ∧ dn[i]? = some (p5 ss) ∧ nz[7 + i]? = some (p27 ss)) (e1 : u1.length = 40) (e2 : u2.length = 40) (e3 : u3.length = 40) (e4 : u4.length = 40) (ln : li.length = 160) (hz : z = Int32.ofNat 0 ∨ z = Int32.ofNat 1) : ∃ kk : Int32, (∀ H : List AE, Nat.ble 204 H.length = true → (∃ v h2, FR 170 7 [.ref 0, .int z] (ov H ((0, .inr (10, [.ref 1, .ref 3, .ref s0, .ref 23, .ref 31, .ref 39, .ref 105, .ref se, .ref ss, .ref 120, .ref 125, .ref 129, .ref 131, .int lt, .int fb, .int tq, .int gb])) :: ((1, tcl n lim0 a0 kd0 pl0 w0 le0 nu0 tk0 fa0 fp0) :: (2, bcl bs) :: [(3, dcl3 P Dn lw cl id gl bo), (4, lng pn), (5, ia ri), (6, ia lf), (7, ia wa), (8, ia fo), (9, lng dn), (10, ia ha), (11, ia pa), (12, ia bl), (105, bkr c4 bv), (106, ia u1), (107, ia u2), (108, ia u3), (109, ia u4)]))) (some (.int v), h2) ∧ hq h2 0 13 = some (.int kk)) ∨ ∃ L hT, RQ 160 7 0 (lv_args 0 [.ref 0, .int z]) [] (ov H ((0, .inr (10, [.ref 1, .ref 3, .ref s0, .ref 23, .ref 31, .ref 39, .ref 105, .ref se, .ref ss, .ref 120, .ref 125, .ref 129, .ref 131, .int lt, .int fb, .int tq, .int gb])) :: ((1, tcl n lim0 a0 kd0 pl0 w0 le0 nu0 tk0 fa0 fp0) :: (2, bcl bs) :: [(3, dcl3 P Dn lw cl id gl bo), (4, lng pn), (5, ia ri), (6, ia lf), (7, ia wa), (8, ia fo), (9, lng dn), (10, ia ha), (11, ia pa), (12, ia bl), (105, bkr c4 bv), (106, ia u1), (107, ia u2), (108, ia u3), (109, ia u4)]))) (50, L, [], hT) ∧ KP 0 10 13 (.int kk) hT) ∧ ∀ H : List AE, Nat.ble 204 H.length = true → (∃ v h2, FR 190 181 [.ref 180, .int z] (ov H ((180, mcl p0 (Int32.ofNat n) sz1 lim1 a1x fr1 kd1x nu1x sg1x fa1 pl1x wd1x td1x (posb vs lm0)) :: (181, mtl ts) :: [(182, ia nw), (187, lng nz), (200, ia li)])) (some (.int v), h2) ∧ hq h2 180 10 = some (.int kk)) ∨ ∃ L hT, RQ 180 181 0 (lv_args 0 [.ref 180, .int z]) [] (ov H ((180, mcl p0 (Int32.ofNat n) sz1 lim1 a1x fr1 kd1x nu1x sg1x fa1 pl1x wd1x td1x (posb vs lm0)) :: (181, mtl ts) :: [(182, ia nw), (187, lng nz), (200, ia li)])) (65, L, [], hT) ∧ KP 180 11 10 (.int kk) hT := by
  have hl : 400 ≤ 940 := by decide
  have cb := tc_begin (B := B) (n := n) (lim := 400) (po := posb vs lm0) (k := 0) (a := 0) (tk := Int32.ofNat 0) (td := td1x) (fp := Int32.ofNat 0) (nuM := nu1x) (sg := sg1x) (plM := pl1x) (wd := wd1x) hb (Nat.zero_le n) (Nat.le_refl 0)
  have hxo : ∀ H : List AE, Nat.ble 204 H.length = true → H[1]? = some (tcl n lim0 a0 kd0 pl0 w0 le0 nu0 tk0 fa0 fp0) → H[2]? = some (bcl bs) → FR 4 161 [.ref 1, .int (Int32.ofNat 400)] H (none, ov H [(1, advC B n 400 0 (Int32.ofNat 0) (Int32.ofNat 0) (Int32.ofNat 0))]) := fun H hlen h1 h2 => x_open hB hlen h1 h2 hn hl
  have hmb : ∀ H : List AE, Nat.ble 204 H.length = true → H[180]? = some (mcl (Int32.ofNat 0) (Int32.ofNat n) sz1 lim1 a1x fr1 kd1x nu1x sg1x fa1 pl1x wd1x td1x (posb vs lm0)) → H[181]? = some (mtl ts) → FR 3 176 [.ref 180, .int (Int32.ofNat 400)] H (none, ov H [(180, mcl (Int32.ofNat 0) (Int32.ofNat 0) n 400 (goV B n 400 0 nu1x sg1x wd1x).1 (goV B n 400 0 nu1x sg1x wd1x).2.1 (goV B n 400 0 nu1x sg1x wd1x).2.2.1 (goV B n 400 0 nu1x sg1x wd1x).2.2.2.1 (goV B n 400 0 nu1x sg1x wd1x).2.2.2.2.1 (Int32.ofNat 0) pl1x (goV B n 400 0 nu1x sg1x wd1x).2.2.2.2.2 td1x (posb vs lm0))]) := fun H hlen h1 h2 => m_begin hM hlen h1 h2 hn hl
  generalize advC B n 400 0 (Int32.ofNat 0) (Int32.ofNat 0) (Int32.ofNat 0) = T at cb hxo
  generalize mcl (Int32.ofNat 0) (Int32.ofNat 0) n 400 (goV B n 400 0 nu1x sg1x wd1x).1 (goV B n 400 0 nu1x sg1x wd1x).2.1 (goV B n 400 0 nu1x sg1x wd1x).2.2.1 (goV B n 400 0 nu1x sg1x wd1x).2.2.2.1 (goV B n 400 0 nu1x sg1x wd1x).2.2.2.2.1 (Int32.ofNat 0) pl1x (goV B n 400 0 nu1x sg1x wd1x).2.2.2.2.2 td1x (posb vs lm0) = M at cb hmb
  obtain ⟨a1, kd1, pl1, w1, le1, nu1, fp1, nm1, sg1, qm1, wd1, rfl, rfl, t1⟩ := cb
  rcases b_loop3 (vs := vs) (bv := bv) (Dn := Dn) (lw := lw) (cl := cl) (id := id) (gl := gl) (bo := bo) (ri := ri) (lf := lf) (wa := wa) (fo := fo) (ha := ha) (pa := pa) (bl := bl) hB hM hb hn hl hP hDn lp ld lz hv hv1 hN hN2 40 _ a1 kd1 pl1 w1 le1 nu1 (Int32.ofNat 0) td1x fp1 nm1 sg1 qm1 wd1 0 u1 u2 u3 u4 li rfl t1 ⟨by decide, e1, e2, e3, e4⟩ ln with ⟨T, M, o2, lm, v1, v2, v3, v4, li2, rv, f, g1, g2⟩ | ⟨k2, tk2, td2, T, M, o2, lm, v1, v2, v3, v4, li2, c2, g1, g2⟩
  · obtain ⟨a9, kd9, pl9, w9, le9, nu9, tk9, kk9, am9, fm9, kM9, nm9, sg9, fa9, qm9, wd9, td9, rfl, rfl, rfl, rfl, kk1, kk4⟩ := f
    have hy0 : ∀ H : List AE, Nat.ble 204 H.length = true → FR 40 54 [.ref 105, .ref 1, .ref 3] (ov H ((1, tcl n lim0 a0 kd0 pl0 w0 le0 nu0 tk0 fa0 fp0) :: (2, bcl bs) :: [(3, dcl3 P Dn lw cl id gl bo), (4, lng pn), (5, ia ri), (6, ia lf), (7, ia wa), (8, ia fo), (9, lng dn), (10, ia ha), (11, ia pa), (12, ia bl), (105, bkr c4 bv), (106, ia u1), (107, ia u2), (108, ia u3), (109, ia u4)])) (none, ov (ov H ((1, tcl n lim0 a0 kd0 pl0 w0 le0 nu0 tk0 fa0 fp0) :: (2, bcl bs) :: [(3, dcl3 P Dn lw cl id gl bo), (4, lng pn), (5, ia ri), (6, ia lf), (7, ia wa), (8, ia fo), (9, lng dn), (10, ia ha), (11, ia pa), (12, ia bl), (105, bkr c4 bv), (106, ia u1), (107, ia u2), (108, ia u3), (109, ia u4)])) [(1, tcl n 400 a9 kd9 pl9 w9 le9 nu9 tk9 (Int32.ofNat kk9) (Int32.ofNat pl9)), (105, bkc o2 bv), (106, ia v1), (107, ia v2), (108, ia v3), (109, ia v4)]) := fun H hlen => by
      refine FR_st2 (l2 := ((1, tcl n 400 a9 kd9 pl9 w9 le9 nu9 tk9 (Int32.ofNat kk9) (Int32.ofNat pl9)) :: (2, bcl bs) :: [(3, dcl3 P Dn lw cl id gl bo), (4, lng pn), (5, ia ri), (6, ia lf), (7, ia wa), (8, ia fo), (9, lng dn), (10, ia ha), (11, ia pa), (12, ia bl), (105, bkc o2 bv), (106, ia v1), (107, ia v2), (108, ia v3), (109, ia v4)])) rfl rfl rfl ?_
      refine RT_step (pc2 := 1) rfl (fun _ _ => rfl) ?_
      refine rt_ico rfl ki_0 ?_
      refine ow_pf (l2 := ((1, tcl n lim0 a0 kd0 pl0 w0 le0 nu0 tk0 fa0 fp0) :: (2, bcl bs) :: [(3, dcl3 P Dn lw cl id gl bo), (4, lng pn), (5, ia ri), (6, ia lf), (7, ia wa), (8, ia fo), (9, lng dn), (10, ia ha), (11, ia pa), (12, ia bl), (105, bkc 0 bv), (106, ia u1), (107, ia u2), (108, ia u3), (109, ia u4)])) rfl rfl rfl rfl rfl hlen rfl rfl ?_
      refine RT_step (pc2 := 6) rfl (fun _ _ => rfl) ?_
      refine rt_sip rfl k16_400 ?_
      refine ow_iv0 (l2 := ((1, tcl n 400 a1 kd1 pl1 w1 le1 nu1 (Int32.ofNat 0) (Int32.ofNat 0) fp1) :: (2, bcl bs) :: [(3, dcl3 P Dn lw cl id gl bo), (4, lng pn), (5, ia ri), (6, ia lf), (7, ia wa), (8, ia fo), (9, lng dn), (10, ia ha), (11, ia pa), (12, ia bl), (105, bkc 0 bv), (106, ia u1), (107, ia u2), (108, ia u3), (109, ia u4)])) rfl rfl rfl rfl hlen rfl rfl rfl ((hxo _ (ov_hl hlen) (ov_at rfl (ov_lt hlen (by decide))) (ov_at rfl (ov_lt hlen (by decide)))).up (by decide)) rfl ?_
      refine rt_ico rfl ki_0 ?_
      refine RT_step (pc2 := 14) rfl (fun _ _ => rfl) ?_
      exact g1 H 25 _ hlen rfl rfl rfl rfl
    refine ⟨Int32.ofNat kk9, fun H hlen => Or.inl ?_, fun H hlen => Or.inl ?_⟩
    · have hk : FR 1 41 [.ref 0] (ov H ((0, .inr (10, [.ref 1, .ref 3, .ref s0, .ref 23, .ref 31, .ref 39, .ref 105, .ref se, .ref ss, .ref 120, .ref 125, .ref 129, .ref 131, .int lt, .int fb, .int tq, .int gb])) :: ((1, tcl n 400 a9 kd9 pl9 w9 le9 nu9 tk9 (Int32.ofNat kk9) (Int32.ofNat pl9)) :: (2, bcl bs) :: [(3, dcl3 P Dn lw cl id gl bo), (4, lng pn), (5, ia ri), (6, ia lf), (7, ia wa), (8, ia fo), (9, lng dn), (10, ia ha), (11, ia pa), (12, ia bl), (105, bkc o2 bv), (106, ia v1), (107, ia v2), (108, ia v3), (109, ia v4)]))) (none, ov (ov H ((0, .inr (10, [.ref 1, .ref 3, .ref s0, .ref 23, .ref 31, .ref 39, .ref 105, .ref se, .ref ss, .ref 120, .ref 125, .ref 129, .ref 131, .int lt, .int fb, .int tq, .int gb])) :: ((1, tcl n 400 a9 kd9 pl9 w9 le9 nu9 tk9 (Int32.ofNat kk9) (Int32.ofNat pl9)) :: (2, bcl bs) :: [(3, dcl3 P Dn lw cl id gl bo), (4, lng pn), (5, ia ri), (6, ia lf), (7, ia wa), (8, ia fo), (9, lng dn), (10, ia ha), (11, ia pa), (12, ia bl), (105, bkc o2 bv), (106, ia v1), (107, ia v2), (108, ia v3), (109, ia v4)]))) [(0, .inr (10, [.ref 1, .ref 3, .ref s0, .ref 23, .ref 31, .ref 39, .ref 105, .ref se, .ref ss, .ref 120, .ref 125, .ref 129, .ref 131, .int (Int32.ofNat kk9), .int fb, .int tq, .int gb])), (1, tcl 0 400 a9 kd9 pl9 w9 le9 nu9 tk9 (Int32.ofNat kk9) (Int32.ofNat pl9))]) := by
        refine FR_st2 (l2 := ((0, .inr (10, [.ref 1, .ref 3, .ref s0, .ref 23, .ref 31, .ref 39, .ref 105, .ref se, .ref ss, .ref 120, .ref 125, .ref 129, .ref 131, .int (Int32.ofNat kk9), .int fb, .int tq, .int gb])) :: ((1, tcl 0 400 a9 kd9 pl9 w9 le9 nu9 tk9 (Int32.ofNat kk9) (Int32.ofNat pl9)) :: (2, bcl bs) :: [(3, dcl3 P Dn lw cl id gl bo), (4, lng pn), (5, ia ri), (6, ia lf), (7, ia wa), (8, ia fo), (9, lng dn), (10, ia ha), (11, ia pa), (12, ia bl), (105, bkc o2 bv), (106, ia v1), (107, ia v2), (108, ia v3), (109, ia v4)]))) rfl rfl rfl ?_
        refine RT_step (pc2 := 1) rfl (fun _ _ => rfl) ?_
        refine RT_step (pc2 := 2) rfl (fun _ _ => rfl) ?_
        refine ow_gf rfl rfl rfl hlen rfl ?_
        refine ow_gf rfl rfl rfl hlen rfl ?_
        refine ow_pf (l2 := ((0, .inr (10, [.ref 1, .ref 3, .ref s0, .ref 23, .ref 31, .ref 39, .ref 105, .ref se, .ref ss, .ref 120, .ref 125, .ref 129, .ref 131, .int (Int32.ofNat kk9), .int fb, .int tq, .int gb])) :: ((1, tcl n 400 a9 kd9 pl9 w9 le9 nu9 tk9 (Int32.ofNat kk9) (Int32.ofNat pl9)) :: (2, bcl bs) :: [(3, dcl3 P Dn lw cl id gl bo), (4, lng pn), (5, ia ri), (6, ia lf), (7, ia wa), (8, ia fo), (9, lng dn), (10, ia ha), (11, ia pa), (12, ia bl), (105, bkc o2 bv), (106, ia v1), (107, ia v2), (108, ia v3), (109, ia v4)]))) rfl rfl rfl rfl rfl hlen rfl rfl ?_
        refine RT_step (pc2 := 12) rfl (fun _ _ => rfl) ?_
        refine ow_gf rfl rfl rfl hlen rfl ?_
        refine rt_ico rfl ki_0 ?_
        refine ow_pf (l2 := ((0, .inr (10, [.ref 1, .ref 3, .ref s0, .ref 23, .ref 31, .ref 39, .ref 105, .ref se, .ref ss, .ref 120, .ref 125, .ref 129, .ref 131, .int (Int32.ofNat kk9), .int fb, .int tq, .int gb])) :: ((1, tcl 0 400 a9 kd9 pl9 w9 le9 nu9 tk9 (Int32.ofNat kk9) (Int32.ofNat pl9)) :: (2, bcl bs) :: [(3, dcl3 P Dn lw cl id gl bo), (4, lng pn), (5, ia ri), (6, ia lf), (7, ia wa), (8, ia fo), (9, lng dn), (10, ia ha), (11, ia pa), (12, ia bl), (105, bkc o2 bv), (106, ia v1), (107, ia v2), (108, ia v3), (109, ia v4)]))) rfl rfl rfl rfl rfl hlen rfl rfl ?_
        exact ow_ret rfl rfl rfl
      refine ⟨(-2 : Int32) - Int32.ofNat pl9, ov H ((0, .inr (10, [.ref 1, .ref 3, .ref s0, .ref 23, .ref 31, .ref 39, .ref 105, .ref se, .ref ss, .ref 120, .ref 125, .ref 129, .ref 131, .int (Int32.ofNat kk9), .int fb, .int tq, .int gb])) :: ((1, tcl 0 400 a9 kd9 pl9 w9 le9 nu9 tk9 (Int32.ofNat kk9) (Int32.ofNat pl9)) :: (2, bcl bs) :: [(3, dcl3 P Dn lw cl id gl bo), (4, lng pn), (5, ia ri), (6, ia lf), (7, ia wa), (8, ia fo), (9, lng dn), (10, ia ha), (11, ia pa), (12, ia bl), (105, bkc o2 bv), (106, ia v1), (107, ia v2), (108, ia v3), (109, ia v4)])), FR_of rfl ?_, (hq_obj (ov_at rfl (ov_lt hlen (by decide)))).trans rfl⟩
      rcases hz with rfl | rfl
      · refine RT_step (pc2 := 1) rfl (fun _ _ => rfl) ?_
        refine bcT_eq rfl rfl ?_
        refine RT_step (pc2 := 14) rfl (fun _ _ => rfl) ?_
        refine ow_gf rfl rfl rfl hlen rfl ?_
        refine RT_step (pc2 := 18) rfl (fun _ _ => rfl) ?_
        refine ow_gf rfl rfl rfl hlen rfl ?_
        refine RT_step (pc2 := 22) rfl (fun _ _ => rfl) ?_
        refine ow_gf rfl rfl rfl hlen rfl ?_
        refine ow_iv0 (l2 := ((0, .inr (10, [.ref 1, .ref 3, .ref s0, .ref 23, .ref 31, .ref 39, .ref 105, .ref se, .ref ss, .ref 120, .ref 125, .ref 129, .ref 131, .int lt, .int fb, .int tq, .int gb])) :: ((1, tcl n 400 a9 kd9 pl9 w9 le9 nu9 tk9 (Int32.ofNat kk9) (Int32.ofNat pl9)) :: (2, bcl bs) :: [(3, dcl3 P Dn lw cl id gl bo), (4, lng pn), (5, ia ri), (6, ia lf), (7, ia wa), (8, ia fo), (9, lng dn), (10, ia ha), (11, ia pa), (12, ia bl), (105, bkc o2 bv), (106, ia v1), (107, ia v2), (108, ia v3), (109, ia v4)]))) rfl rfl rfl rfl hlen rfl rfl rfl ((lr_y0 hy0 hlen).up (by decide)) rfl ?_
        refine RT_step (pc2 := 29) rfl (fun _ _ => rfl) ?_
        refine ow_iv0 (l2 := ((0, .inr (10, [.ref 1, .ref 3, .ref s0, .ref 23, .ref 31, .ref 39, .ref 105, .ref se, .ref ss, .ref 120, .ref 125, .ref 129, .ref 131, .int (Int32.ofNat kk9), .int fb, .int tq, .int gb])) :: ((1, tcl 0 400 a9 kd9 pl9 w9 le9 nu9 tk9 (Int32.ofNat kk9) (Int32.ofNat pl9)) :: (2, bcl bs) :: [(3, dcl3 P Dn lw cl id gl bo), (4, lng pn), (5, ia ri), (6, ia lf), (7, ia wa), (8, ia fo), (9, lng dn), (10, ia ha), (11, ia pa), (12, ia bl), (105, bkc o2 bv), (106, ia v1), (107, ia v2), (108, ia v3), (109, ia v4)]))) rfl rfl rfl rfl hlen rfl rfl rfl (hk.up (by decide)) rfl ?_
        refine RT_step (pc2 := 33) rfl (fun _ _ => rfl) ?_
        refine ow_gf rfl rfl rfl hlen rfl ?_
        refine bcF_eq rfl (n_ne (b := 0) (by omega) (by omega) (by decide)) ?_
        refine rt_bip rfl k8_m2 ?_
        refine RT_step (pc2 := 42) rfl (fun _ _ => rfl) ?_
        refine ow_gf rfl rfl rfl hlen rfl ?_
        refine ow_gf rfl rfl rfl hlen rfl ?_
        refine ba_isub rfl ?_
        exact ow_irt rfl rfl rfl
      · refine RT_step (pc2 := 1) rfl (fun _ _ => rfl) ?_
        refine bcF_eq rfl (by decide) ?_
        refine RT_step (pc2 := 5) rfl (fun _ _ => rfl) ?_
        refine rt_ico rfl ki_1 ?_
        refine biT_eq rfl rfl ?_
        refine RT_step (pc2 := 14) rfl (fun _ _ => rfl) ?_
        refine ow_gf rfl rfl rfl hlen rfl ?_
        refine RT_step (pc2 := 18) rfl (fun _ _ => rfl) ?_
        refine ow_gf rfl rfl rfl hlen rfl ?_
        refine RT_step (pc2 := 22) rfl (fun _ _ => rfl) ?_
        refine ow_gf rfl rfl rfl hlen rfl ?_
        refine ow_iv0 (l2 := ((0, .inr (10, [.ref 1, .ref 3, .ref s0, .ref 23, .ref 31, .ref 39, .ref 105, .ref se, .ref ss, .ref 120, .ref 125, .ref 129, .ref 131, .int lt, .int fb, .int tq, .int gb])) :: ((1, tcl n 400 a9 kd9 pl9 w9 le9 nu9 tk9 (Int32.ofNat kk9) (Int32.ofNat pl9)) :: (2, bcl bs) :: [(3, dcl3 P Dn lw cl id gl bo), (4, lng pn), (5, ia ri), (6, ia lf), (7, ia wa), (8, ia fo), (9, lng dn), (10, ia ha), (11, ia pa), (12, ia bl), (105, bkc o2 bv), (106, ia v1), (107, ia v2), (108, ia v3), (109, ia v4)]))) rfl rfl rfl rfl hlen rfl rfl rfl ((lr_y0 hy0 hlen).up (by decide)) rfl ?_
        refine RT_step (pc2 := 29) rfl (fun _ _ => rfl) ?_
        refine ow_iv0 (l2 := ((0, .inr (10, [.ref 1, .ref 3, .ref s0, .ref 23, .ref 31, .ref 39, .ref 105, .ref se, .ref ss, .ref 120, .ref 125, .ref 129, .ref 131, .int (Int32.ofNat kk9), .int fb, .int tq, .int gb])) :: ((1, tcl 0 400 a9 kd9 pl9 w9 le9 nu9 tk9 (Int32.ofNat kk9) (Int32.ofNat pl9)) :: (2, bcl bs) :: [(3, dcl3 P Dn lw cl id gl bo), (4, lng pn), (5, ia ri), (6, ia lf), (7, ia wa), (8, ia fo), (9, lng dn), (10, ia ha), (11, ia pa), (12, ia bl), (105, bkc o2 bv), (106, ia v1), (107, ia v2), (108, ia v3), (109, ia v4)]))) rfl rfl rfl rfl hlen rfl rfl rfl (hk.up (by decide)) rfl ?_
        refine RT_step (pc2 := 33) rfl (fun _ _ => rfl) ?_
        refine ow_gf rfl rfl rfl hlen rfl ?_
        refine bcF_eq rfl (n_ne (b := 0) (by omega) (by omega) (by decide)) ?_
        refine rt_bip rfl k8_m2 ?_
        refine RT_step (pc2 := 42) rfl (fun _ _ => rfl) ?_
        refine ow_gf rfl rfl rfl hlen rfl ?_
        refine ow_gf rfl rfl rfl hlen rfl ?_
        refine ba_isub rfl ?_
        exact ow_irt rfl rfl rfl
    · refine ⟨rv, ov H ((180, mcl (Int32.ofNat 0) (Int32.ofNat 0) n 400 am9 fm9 kM9 nm9 sg9 (Int32.ofNat kk9) (Int32.ofNat pl9) wd9 td9 (posb vs lm)) :: (181, mtl ts) :: [(182, ia nw), (187, lng nz), (200, ia li2)]), FR_of rfl ?_, (hq_obj (ov_at rfl (ov_lt hlen (by decide)))).trans rfl⟩
      rcases hz with rfl | rfl
      · refine RT_step (pc2 := 1) rfl (fun _ _ => rfl) ?_
        refine rt_ico rfl ki_0 ?_
        refine ow_pf (l2 := ((180, mcl (Int32.ofNat 0) (Int32.ofNat n) sz1 lim1 a1x fr1 kd1x nu1x sg1x fa1 pl1x wd1x td1x (posb vs lm0)) :: (181, mtl ts) :: [(182, ia nw), (187, lng nz), (200, ia li)])) rfl rfl rfl rfl rfl hlen rfl rfl ?_
        refine RT_step (pc2 := 6) rfl (fun _ _ => rfl) ?_
        refine rt_ico rfl ki_0 ?_
        refine rt_ico rfl ki_1 ?_
        refine ow_is1 (l2 := ((180, mcl (Int32.ofNat 0) (Int32.ofNat n) sz1 lim1 a1x fr1 kd1x nu1x sg1x fa1 pl1x wd1x td1x (posb vs lm0)) :: (181, mtl ts) :: [(182, ia nw), (187, lng nz), (200, ia li)])) rfl rfl rfl rfl rfl ((m_isIb (by decide) (by decide)).up (by decide)) rfl ?_
        refine bcF_ne rfl (by decide) ?_
        refine RT_step (pc2 := 19) rfl (fun _ _ => rfl) ?_
        refine rt_sip rfl k16_400 ?_
        refine ow_iv0 (l2 := ((180, mcl (Int32.ofNat 0) (Int32.ofNat 0) n 400 a1 pl1 (km kd1) nm1 sg1 (Int32.ofNat 0) qm1 wd1 td1x (posb vs lm0)) :: (181, mtl ts) :: [(182, ia nw), (187, lng nz), (200, ia li)])) rfl rfl rfl rfl hlen rfl rfl rfl ((hmb _ (ov_hl hlen) (ov_at rfl (ov_lt hlen (by decide))) (ov_at rfl (ov_lt hlen (by decide)))).up (by decide)) rfl ?_
        refine RT_step (pc2 := 26) rfl (fun _ _ => rfl) ?_
        refine rt_ico rfl ki_0 ?_
        refine ow_pf (l2 := ((180, mcl (Int32.ofNat 0) (Int32.ofNat 0) n 400 a1 pl1 (km kd1) nm1 sg1 (Int32.ofNat 0) qm1 wd1 td1x (posb vs 0)) :: (181, mtl ts) :: [(182, ia nw), (187, lng nz), (200, ia li)])) rfl rfl rfl rfl rfl hlen rfl rfl ?_
        exact g2 H 174 _ hlen rfl
      · refine RT_step (pc2 := 1) rfl (fun _ _ => rfl) ?_
        refine rt_ico rfl ki_0 ?_
        refine ow_pf (l2 := ((180, mcl (Int32.ofNat 0) (Int32.ofNat n) sz1 lim1 a1x fr1 kd1x nu1x sg1x fa1 pl1x wd1x td1x (posb vs lm0)) :: (181, mtl ts) :: [(182, ia nw), (187, lng nz), (200, ia li)])) rfl rfl rfl rfl rfl hlen rfl rfl ?_
        refine RT_step (pc2 := 6) rfl (fun _ _ => rfl) ?_
        refine rt_ico rfl ki_0 ?_
        refine rt_ico rfl ki_1 ?_
        refine ow_is1 (l2 := ((180, mcl (Int32.ofNat 0) (Int32.ofNat n) sz1 lim1 a1x fr1 kd1x nu1x sg1x fa1 pl1x wd1x td1x (posb vs lm0)) :: (181, mtl ts) :: [(182, ia nw), (187, lng nz), (200, ia li)])) rfl rfl rfl rfl rfl ((m_isIb (by decide) (by decide)).up (by decide)) rfl ?_
        refine bcF_ne rfl (by decide) ?_
        refine RT_step (pc2 := 19) rfl (fun _ _ => rfl) ?_
        refine rt_sip rfl k16_400 ?_
        refine ow_iv0 (l2 := ((180, mcl (Int32.ofNat 0) (Int32.ofNat 0) n 400 a1 pl1 (km kd1) nm1 sg1 (Int32.ofNat 0) qm1 wd1 td1x (posb vs lm0)) :: (181, mtl ts) :: [(182, ia nw), (187, lng nz), (200, ia li)])) rfl rfl rfl rfl hlen rfl rfl rfl ((hmb _ (ov_hl hlen) (ov_at rfl (ov_lt hlen (by decide))) (ov_at rfl (ov_lt hlen (by decide)))).up (by decide)) rfl ?_
        refine RT_step (pc2 := 26) rfl (fun _ _ => rfl) ?_
        refine rt_ico rfl ki_0 ?_
        refine ow_pf (l2 := ((180, mcl (Int32.ofNat 0) (Int32.ofNat 0) n 400 a1 pl1 (km kd1) nm1 sg1 (Int32.ofNat 0) qm1 wd1 td1x (posb vs 0)) :: (181, mtl ts) :: [(182, ia nw), (187, lng nz), (200, ia li)])) rfl rfl rfl rfl rfl hlen rfl rfl ?_
        exact g2 H 174 _ hlen rfl
  · obtain ⟨a2, kd2, pl2, w2, le2, nu2, fp2, nm2, sg2, qm2, wd2, rfl, rfl, t2⟩ := c2
    have hy0 : ∀ H : List AE, Nat.ble 204 H.length = true → FR 40 54 [.ref 105, .ref 1, .ref 3] (ov H ((1, tcl n lim0 a0 kd0 pl0 w0 le0 nu0 tk0 fa0 fp0) :: (2, bcl bs) :: [(3, dcl3 P Dn lw cl id gl bo), (4, lng pn), (5, ia ri), (6, ia lf), (7, ia wa), (8, ia fo), (9, lng dn), (10, ia ha), (11, ia pa), (12, ia bl), (105, bkr c4 bv), (106, ia u1), (107, ia u2), (108, ia u3), (109, ia u4)])) (none, ov (ov H ((1, tcl n lim0 a0 kd0 pl0 w0 le0 nu0 tk0 fa0 fp0) :: (2, bcl bs) :: [(3, dcl3 P Dn lw cl id gl bo), (4, lng pn), (5, ia ri), (6, ia lf), (7, ia wa), (8, ia fo), (9, lng dn), (10, ia ha), (11, ia pa), (12, ia bl), (105, bkr c4 bv), (106, ia u1), (107, ia u2), (108, ia u3), (109, ia u4)])) [(1, tcl n 400 a2 kd2 pl2 w2 le2 nu2 tk2 (Int32.ofNat 0) fp2), (105, bkc o2 bv), (106, ia v1), (107, ia v2), (108, ia v3), (109, ia v4)]) := fun H hlen => by
      refine FR_st2 (l2 := ((1, tcl n 400 a2 kd2 pl2 w2 le2 nu2 tk2 (Int32.ofNat 0) fp2) :: (2, bcl bs) :: [(3, dcl3 P Dn lw cl id gl bo), (4, lng pn), (5, ia ri), (6, ia lf), (7, ia wa), (8, ia fo), (9, lng dn), (10, ia ha), (11, ia pa), (12, ia bl), (105, bkc o2 bv), (106, ia v1), (107, ia v2), (108, ia v3), (109, ia v4)])) rfl rfl rfl ?_
      refine RT_step (pc2 := 1) rfl (fun _ _ => rfl) ?_
      refine rt_ico rfl ki_0 ?_
      refine ow_pf (l2 := ((1, tcl n lim0 a0 kd0 pl0 w0 le0 nu0 tk0 fa0 fp0) :: (2, bcl bs) :: [(3, dcl3 P Dn lw cl id gl bo), (4, lng pn), (5, ia ri), (6, ia lf), (7, ia wa), (8, ia fo), (9, lng dn), (10, ia ha), (11, ia pa), (12, ia bl), (105, bkc 0 bv), (106, ia u1), (107, ia u2), (108, ia u3), (109, ia u4)])) rfl rfl rfl rfl rfl hlen rfl rfl ?_
      refine RT_step (pc2 := 6) rfl (fun _ _ => rfl) ?_
      refine rt_sip rfl k16_400 ?_
      refine ow_iv0 (l2 := ((1, tcl n 400 a1 kd1 pl1 w1 le1 nu1 (Int32.ofNat 0) (Int32.ofNat 0) fp1) :: (2, bcl bs) :: [(3, dcl3 P Dn lw cl id gl bo), (4, lng pn), (5, ia ri), (6, ia lf), (7, ia wa), (8, ia fo), (9, lng dn), (10, ia ha), (11, ia pa), (12, ia bl), (105, bkc 0 bv), (106, ia u1), (107, ia u2), (108, ia u3), (109, ia u4)])) rfl rfl rfl rfl hlen rfl rfl rfl ((hxo _ (ov_hl hlen) (ov_at rfl (ov_lt hlen (by decide))) (ov_at rfl (ov_lt hlen (by decide)))).up (by decide)) rfl ?_
      refine rt_ico rfl ki_0 ?_
      refine RT_step (pc2 := 14) rfl (fun _ _ => rfl) ?_
      exact g1 H 25 _ hlen rfl rfl rfl rfl
    refine ⟨Int32.ofNat 0, fun H hlen => Or.inr ?_, fun H hlen => Or.inr ?_⟩
    · have hk : FR 1 41 [.ref 0] (ov H ((0, .inr (10, [.ref 1, .ref 3, .ref s0, .ref 23, .ref 31, .ref 39, .ref 105, .ref se, .ref ss, .ref 120, .ref 125, .ref 129, .ref 131, .int lt, .int fb, .int tq, .int gb])) :: ((1, tcl n 400 a2 kd2 pl2 w2 le2 nu2 tk2 (Int32.ofNat 0) fp2) :: (2, bcl bs) :: [(3, dcl3 P Dn lw cl id gl bo), (4, lng pn), (5, ia ri), (6, ia lf), (7, ia wa), (8, ia fo), (9, lng dn), (10, ia ha), (11, ia pa), (12, ia bl), (105, bkc o2 bv), (106, ia v1), (107, ia v2), (108, ia v3), (109, ia v4)]))) (none, ov (ov H ((0, .inr (10, [.ref 1, .ref 3, .ref s0, .ref 23, .ref 31, .ref 39, .ref 105, .ref se, .ref ss, .ref 120, .ref 125, .ref 129, .ref 131, .int lt, .int fb, .int tq, .int gb])) :: ((1, tcl n 400 a2 kd2 pl2 w2 le2 nu2 tk2 (Int32.ofNat 0) fp2) :: (2, bcl bs) :: [(3, dcl3 P Dn lw cl id gl bo), (4, lng pn), (5, ia ri), (6, ia lf), (7, ia wa), (8, ia fo), (9, lng dn), (10, ia ha), (11, ia pa), (12, ia bl), (105, bkc o2 bv), (106, ia v1), (107, ia v2), (108, ia v3), (109, ia v4)]))) [(0, .inr (10, [.ref 1, .ref 3, .ref s0, .ref 23, .ref 31, .ref 39, .ref 105, .ref se, .ref ss, .ref 120, .ref 125, .ref 129, .ref 131, .int (Int32.ofNat 0), .int fb, .int tq, .int gb])), (1, tcl 0 400 a2 kd2 pl2 w2 le2 nu2 tk2 (Int32.ofNat 0) fp2)]) := by
        refine FR_st2 (l2 := ((0, .inr (10, [.ref 1, .ref 3, .ref s0, .ref 23, .ref 31, .ref 39, .ref 105, .ref se, .ref ss, .ref 120, .ref 125, .ref 129, .ref 131, .int (Int32.ofNat 0), .int fb, .int tq, .int gb])) :: ((1, tcl 0 400 a2 kd2 pl2 w2 le2 nu2 tk2 (Int32.ofNat 0) fp2) :: (2, bcl bs) :: [(3, dcl3 P Dn lw cl id gl bo), (4, lng pn), (5, ia ri), (6, ia lf), (7, ia wa), (8, ia fo), (9, lng dn), (10, ia ha), (11, ia pa), (12, ia bl), (105, bkc o2 bv), (106, ia v1), (107, ia v2), (108, ia v3), (109, ia v4)]))) rfl rfl rfl ?_
        refine RT_step (pc2 := 1) rfl (fun _ _ => rfl) ?_
        refine RT_step (pc2 := 2) rfl (fun _ _ => rfl) ?_
        refine ow_gf rfl rfl rfl hlen rfl ?_
        refine ow_gf rfl rfl rfl hlen rfl ?_
        refine ow_pf (l2 := ((0, .inr (10, [.ref 1, .ref 3, .ref s0, .ref 23, .ref 31, .ref 39, .ref 105, .ref se, .ref ss, .ref 120, .ref 125, .ref 129, .ref 131, .int (Int32.ofNat 0), .int fb, .int tq, .int gb])) :: ((1, tcl n 400 a2 kd2 pl2 w2 le2 nu2 tk2 (Int32.ofNat 0) fp2) :: (2, bcl bs) :: [(3, dcl3 P Dn lw cl id gl bo), (4, lng pn), (5, ia ri), (6, ia lf), (7, ia wa), (8, ia fo), (9, lng dn), (10, ia ha), (11, ia pa), (12, ia bl), (105, bkc o2 bv), (106, ia v1), (107, ia v2), (108, ia v3), (109, ia v4)]))) rfl rfl rfl rfl rfl hlen rfl rfl ?_
        refine RT_step (pc2 := 12) rfl (fun _ _ => rfl) ?_
        refine ow_gf rfl rfl rfl hlen rfl ?_
        refine rt_ico rfl ki_0 ?_
        refine ow_pf (l2 := ((0, .inr (10, [.ref 1, .ref 3, .ref s0, .ref 23, .ref 31, .ref 39, .ref 105, .ref se, .ref ss, .ref 120, .ref 125, .ref 129, .ref 131, .int (Int32.ofNat 0), .int fb, .int tq, .int gb])) :: ((1, tcl 0 400 a2 kd2 pl2 w2 le2 nu2 tk2 (Int32.ofNat 0) fp2) :: (2, bcl bs) :: [(3, dcl3 P Dn lw cl id gl bo), (4, lng pn), (5, ia ri), (6, ia lf), (7, ia wa), (8, ia fo), (9, lng dn), (10, ia ha), (11, ia pa), (12, ia bl), (105, bkc o2 bv), (106, ia v1), (107, ia v2), (108, ia v3), (109, ia v4)]))) rfl rfl rfl rfl rfl hlen rfl rfl ?_
        exact ow_ret rfl rfl rfl
      refine ⟨lv_args 0 [.ref 0, .int z], ov H ((0, .inr (10, [.ref 1, .ref 3, .ref s0, .ref 23, .ref 31, .ref 39, .ref 105, .ref se, .ref ss, .ref 120, .ref 125, .ref 129, .ref 131, .int (Int32.ofNat 0), .int fb, .int tq, .int gb])) :: ((1, tcl 0 400 a2 kd2 pl2 w2 le2 nu2 tk2 (Int32.ofNat 0) fp2) :: (2, bcl bs) :: [(3, dcl3 P Dn lw cl id gl bo), (4, lng pn), (5, ia ri), (6, ia lf), (7, ia wa), (8, ia fo), (9, lng dn), (10, ia ha), (11, ia pa), (12, ia bl), (105, bkc o2 bv), (106, ia v1), (107, ia v2), (108, ia v3), (109, ia v4)])), ?_, ⟨_, ov_at rfl (ov_lt hlen (by decide)), rfl⟩⟩
      rcases hz with rfl | rfl
      · refine RQ_step (pc2 := 1) rfl (fun _ _ => rfl) ?_
        refine qbcT_eq rfl rfl ?_
        refine RQ_step (pc2 := 14) rfl (fun _ _ => rfl) ?_
        refine qow_gf rfl rfl rfl hlen rfl ?_
        refine RQ_step (pc2 := 18) rfl (fun _ _ => rfl) ?_
        refine qow_gf rfl rfl rfl hlen rfl ?_
        refine RQ_step (pc2 := 22) rfl (fun _ _ => rfl) ?_
        refine qow_gf rfl rfl rfl hlen rfl ?_
        refine qow_iv0 (l2 := ((0, .inr (10, [.ref 1, .ref 3, .ref s0, .ref 23, .ref 31, .ref 39, .ref 105, .ref se, .ref ss, .ref 120, .ref 125, .ref 129, .ref 131, .int lt, .int fb, .int tq, .int gb])) :: ((1, tcl n 400 a2 kd2 pl2 w2 le2 nu2 tk2 (Int32.ofNat 0) fp2) :: (2, bcl bs) :: [(3, dcl3 P Dn lw cl id gl bo), (4, lng pn), (5, ia ri), (6, ia lf), (7, ia wa), (8, ia fo), (9, lng dn), (10, ia ha), (11, ia pa), (12, ia bl), (105, bkc o2 bv), (106, ia v1), (107, ia v2), (108, ia v3), (109, ia v4)]))) rfl rfl rfl rfl hlen rfl rfl rfl ((lr_y0 hy0 hlen).up (by decide)) rfl ?_
        refine RQ_step (pc2 := 29) rfl (fun _ _ => rfl) ?_
        refine qow_iv0 (l2 := ((0, .inr (10, [.ref 1, .ref 3, .ref s0, .ref 23, .ref 31, .ref 39, .ref 105, .ref se, .ref ss, .ref 120, .ref 125, .ref 129, .ref 131, .int (Int32.ofNat 0), .int fb, .int tq, .int gb])) :: ((1, tcl 0 400 a2 kd2 pl2 w2 le2 nu2 tk2 (Int32.ofNat 0) fp2) :: (2, bcl bs) :: [(3, dcl3 P Dn lw cl id gl bo), (4, lng pn), (5, ia ri), (6, ia lf), (7, ia wa), (8, ia fo), (9, lng dn), (10, ia ha), (11, ia pa), (12, ia bl), (105, bkc o2 bv), (106, ia v1), (107, ia v2), (108, ia v3), (109, ia v4)]))) rfl rfl rfl rfl hlen rfl rfl rfl (hk.up (by decide)) rfl ?_
        refine RQ_step (pc2 := 33) rfl (fun _ _ => rfl) ?_
        refine qow_gf rfl rfl rfl hlen rfl ?_
        refine qbcT_eq rfl rfl ?_
        exact RQ_refl
      · refine RQ_step (pc2 := 1) rfl (fun _ _ => rfl) ?_
        refine qbcF_eq rfl (by decide) ?_
        refine RQ_step (pc2 := 5) rfl (fun _ _ => rfl) ?_
        refine qrt_ico rfl ki_1 ?_
        refine qbiT_eq rfl rfl ?_
        refine RQ_step (pc2 := 14) rfl (fun _ _ => rfl) ?_
        refine qow_gf rfl rfl rfl hlen rfl ?_
        refine RQ_step (pc2 := 18) rfl (fun _ _ => rfl) ?_
        refine qow_gf rfl rfl rfl hlen rfl ?_
        refine RQ_step (pc2 := 22) rfl (fun _ _ => rfl) ?_
        refine qow_gf rfl rfl rfl hlen rfl ?_
        refine qow_iv0 (l2 := ((0, .inr (10, [.ref 1, .ref 3, .ref s0, .ref 23, .ref 31, .ref 39, .ref 105, .ref se, .ref ss, .ref 120, .ref 125, .ref 129, .ref 131, .int lt, .int fb, .int tq, .int gb])) :: ((1, tcl n 400 a2 kd2 pl2 w2 le2 nu2 tk2 (Int32.ofNat 0) fp2) :: (2, bcl bs) :: [(3, dcl3 P Dn lw cl id gl bo), (4, lng pn), (5, ia ri), (6, ia lf), (7, ia wa), (8, ia fo), (9, lng dn), (10, ia ha), (11, ia pa), (12, ia bl), (105, bkc o2 bv), (106, ia v1), (107, ia v2), (108, ia v3), (109, ia v4)]))) rfl rfl rfl rfl hlen rfl rfl rfl ((lr_y0 hy0 hlen).up (by decide)) rfl ?_
        refine RQ_step (pc2 := 29) rfl (fun _ _ => rfl) ?_
        refine qow_iv0 (l2 := ((0, .inr (10, [.ref 1, .ref 3, .ref s0, .ref 23, .ref 31, .ref 39, .ref 105, .ref se, .ref ss, .ref 120, .ref 125, .ref 129, .ref 131, .int (Int32.ofNat 0), .int fb, .int tq, .int gb])) :: ((1, tcl 0 400 a2 kd2 pl2 w2 le2 nu2 tk2 (Int32.ofNat 0) fp2) :: (2, bcl bs) :: [(3, dcl3 P Dn lw cl id gl bo), (4, lng pn), (5, ia ri), (6, ia lf), (7, ia wa), (8, ia fo), (9, lng dn), (10, ia ha), (11, ia pa), (12, ia bl), (105, bkc o2 bv), (106, ia v1), (107, ia v2), (108, ia v3), (109, ia v4)]))) rfl rfl rfl rfl hlen rfl rfl rfl (hk.up (by decide)) rfl ?_
        refine RQ_step (pc2 := 33) rfl (fun _ _ => rfl) ?_
        refine qow_gf rfl rfl rfl hlen rfl ?_
        refine qbcT_eq rfl rfl ?_
        exact RQ_refl
    · refine ⟨lv_args 0 [.ref 180, .int z], ov H ((180, mcl (Int32.ofNat 0) (Int32.ofNat 0) n 400 a2 pl2 (km kd2) nm2 sg2 (Int32.ofNat 0) qm2 wd2 td2 (posb vs lm)) :: (181, mtl ts) :: [(182, ia nw), (187, lng nz), (200, ia li2)]), ?_, ⟨_, ov_at rfl (ov_lt hlen (by decide)), rfl⟩⟩
      rcases hz with rfl | rfl
      · refine RQ_step (pc2 := 1) rfl (fun _ _ => rfl) ?_
        refine qrt_ico rfl ki_0 ?_
        refine qow_pf (l2 := ((180, mcl (Int32.ofNat 0) (Int32.ofNat n) sz1 lim1 a1x fr1 kd1x nu1x sg1x fa1 pl1x wd1x td1x (posb vs lm0)) :: (181, mtl ts) :: [(182, ia nw), (187, lng nz), (200, ia li)])) rfl rfl rfl rfl rfl hlen rfl rfl ?_
        refine RQ_step (pc2 := 6) rfl (fun _ _ => rfl) ?_
        refine qrt_ico rfl ki_0 ?_
        refine qrt_ico rfl ki_1 ?_
        refine qow_is1 (l2 := ((180, mcl (Int32.ofNat 0) (Int32.ofNat n) sz1 lim1 a1x fr1 kd1x nu1x sg1x fa1 pl1x wd1x td1x (posb vs lm0)) :: (181, mtl ts) :: [(182, ia nw), (187, lng nz), (200, ia li)])) rfl rfl rfl rfl rfl ((m_isIb (by decide) (by decide)).up (by decide)) rfl ?_
        refine qbcF_ne rfl (by decide) ?_
        refine RQ_step (pc2 := 19) rfl (fun _ _ => rfl) ?_
        refine qrt_sip rfl k16_400 ?_
        refine qow_iv0 (l2 := ((180, mcl (Int32.ofNat 0) (Int32.ofNat 0) n 400 a1 pl1 (km kd1) nm1 sg1 (Int32.ofNat 0) qm1 wd1 td1x (posb vs lm0)) :: (181, mtl ts) :: [(182, ia nw), (187, lng nz), (200, ia li)])) rfl rfl rfl rfl hlen rfl rfl rfl ((hmb _ (ov_hl hlen) (ov_at rfl (ov_lt hlen (by decide))) (ov_at rfl (ov_lt hlen (by decide)))).up (by decide)) rfl ?_
        refine RQ_step (pc2 := 26) rfl (fun _ _ => rfl) ?_
        refine qrt_ico rfl ki_0 ?_
        refine qow_pf (l2 := ((180, mcl (Int32.ofNat 0) (Int32.ofNat 0) n 400 a1 pl1 (km kd1) nm1 sg1 (Int32.ofNat 0) qm1 wd1 td1x (posb vs 0)) :: (181, mtl ts) :: [(182, ia nw), (187, lng nz), (200, ia li)])) rfl rfl rfl rfl rfl hlen rfl rfl ?_
        exact g2 H 165 _ hlen rfl
      · refine RQ_step (pc2 := 1) rfl (fun _ _ => rfl) ?_
        refine qrt_ico rfl ki_0 ?_
        refine qow_pf (l2 := ((180, mcl (Int32.ofNat 0) (Int32.ofNat n) sz1 lim1 a1x fr1 kd1x nu1x sg1x fa1 pl1x wd1x td1x (posb vs lm0)) :: (181, mtl ts) :: [(182, ia nw), (187, lng nz), (200, ia li)])) rfl rfl rfl rfl rfl hlen rfl rfl ?_
        refine RQ_step (pc2 := 6) rfl (fun _ _ => rfl) ?_
        refine qrt_ico rfl ki_0 ?_
        refine qrt_ico rfl ki_1 ?_
        refine qow_is1 (l2 := ((180, mcl (Int32.ofNat 0) (Int32.ofNat n) sz1 lim1 a1x fr1 kd1x nu1x sg1x fa1 pl1x wd1x td1x (posb vs lm0)) :: (181, mtl ts) :: [(182, ia nw), (187, lng nz), (200, ia li)])) rfl rfl rfl rfl rfl ((m_isIb (by decide) (by decide)).up (by decide)) rfl ?_
        refine qbcF_ne rfl (by decide) ?_
        refine RQ_step (pc2 := 19) rfl (fun _ _ => rfl) ?_
        refine qrt_sip rfl k16_400 ?_
        refine qow_iv0 (l2 := ((180, mcl (Int32.ofNat 0) (Int32.ofNat 0) n 400 a1 pl1 (km kd1) nm1 sg1 (Int32.ofNat 0) qm1 wd1 td1x (posb vs lm0)) :: (181, mtl ts) :: [(182, ia nw), (187, lng nz), (200, ia li)])) rfl rfl rfl rfl hlen rfl rfl rfl ((hmb _ (ov_hl hlen) (ov_at rfl (ov_lt hlen (by decide))) (ov_at rfl (ov_lt hlen (by decide)))).up (by decide)) rfl ?_
        refine RQ_step (pc2 := 26) rfl (fun _ _ => rfl) ?_
        refine qrt_ico rfl ki_0 ?_
        refine qow_pf (l2 := ((180, mcl (Int32.ofNat 0) (Int32.ofNat 0) n 400 a1 pl1 (km kd1) nm1 sg1 (Int32.ofNat 0) qm1 wd1 td1x (posb vs 0)) :: (181, mtl ts) :: [(182, ia nw), (187, lng nz), (200, ia li)])) rfl rfl rfl rfl rfl hlen rfl rfl ?_
        exact g2 H 165 _ hlen rfl
theorem bq13 {B : Nat → Nat} {bs ts : List Int32} {vs : Nat → Value} {bv : Nat → Int32} {n : Nat} {P : Nat} {Dn : Nat} {lw : Int32} {cl : Int32} {id : Int32} {gl : Nat} {bo : Nat} {pn : List Int64} {ri : List Int32} {lf : List Int32} {wa : List Int32} {fo : List Int32} {dn : List Int64} {ha : List Int32} {pa : List Int32} {bl : List Int32} {nw li u1 u2 u3 u4 : List Int32} {nz : List Int64} {lim0 a0 kd0 pl0 w0 : Nat} {le0 : Int64} {nu0 tk0 fa0 fp0 : Int32} {sz1 lim1 a1x fr1 kd1x lm0 : Nat} {p0 nu1x sg1x fa1 pl1x td1x : Int32} {wd1x : Int64} {s0 se ss : Nat} {lt fb tq gb c4 z : Int32} (hB : BY bs B) (hM : MY ts B) (hb : ∀ i, B i < 256) (hn : n ≤ 940) (hP : P ≤ 7) (hDn : Dn ≤ 8) (lp : pn.length = 7) (ld : dn.length = 8) (lz : nz.length = 15) (hv : nw[0]? = some (Int32.ofNat P)) (hv1 : nw[1]? = some (Int32.ofNat Dn)) (hN : ∀ i, i < P → ∃ ss, nok ss ∧ pn[i]? = some (p5 ss) ∧ nz[0 + i]? = some (p27 ss)) (hN2 : ∀ i, i < Dn → ∃ ss, nok ss ∧ dn[i]? = some (p5 ss) ∧ nz[7 + i]? = some (p27 ss)) (e1 : u1.length = 40) (e2 : u2.length = 40) (e3 : u3.length = 40) (e4 : u4.length = 40) (ln : li.length = 160) (hz : z = Int32.ofNat 0 ∨ z = Int32.ofNat 1) : ∃ kk : Int32, (∀ H : List AE, Nat.ble 204 H.length = true → (∃ v h2, FR 170 7 [.ref 0, .int z] (ov H ((0, .inr (10, [.ref 1, .ref 13, .ref s0, .ref 23, .ref 31, .ref 39, .ref 105, .ref se, .ref ss, .ref 120, .ref 125, .ref 129, .ref 131, .int lt, .int fb, .int tq, .int gb])) :: ((1, tcl n lim0 a0 kd0 pl0 w0 le0 nu0 tk0 fa0 fp0) :: (2, bcl bs) :: [(13, dcl13 P Dn lw cl id gl bo), (14, lng pn), (15, ia ri), (16, ia lf), (17, ia wa), (18, ia fo), (19, lng dn), (20, ia ha), (21, ia pa), (22, ia bl), (105, bkr c4 bv), (106, ia u1), (107, ia u2), (108, ia u3), (109, ia u4)]))) (some (.int v), h2) ∧ hq h2 0 13 = some (.int kk)) ∨ ∃ L hT, RQ 160 7 0 (lv_args 0 [.ref 0, .int z]) [] (ov H ((0, .inr (10, [.ref 1, .ref 13, .ref s0, .ref 23, .ref 31, .ref 39, .ref 105, .ref se, .ref ss, .ref 120, .ref 125, .ref 129, .ref 131, .int lt, .int fb, .int tq, .int gb])) :: ((1, tcl n lim0 a0 kd0 pl0 w0 le0 nu0 tk0 fa0 fp0) :: (2, bcl bs) :: [(13, dcl13 P Dn lw cl id gl bo), (14, lng pn), (15, ia ri), (16, ia lf), (17, ia wa), (18, ia fo), (19, lng dn), (20, ia ha), (21, ia pa), (22, ia bl), (105, bkr c4 bv), (106, ia u1), (107, ia u2), (108, ia u3), (109, ia u4)]))) (50, L, [], hT) ∧ KP 0 10 13 (.int kk) hT) ∧ ∀ H : List AE, Nat.ble 204 H.length = true → (∃ v h2, FR 190 181 [.ref 180, .int z] (ov H ((180, mcl p0 (Int32.ofNat n) sz1 lim1 a1x fr1 kd1x nu1x sg1x fa1 pl1x wd1x td1x (posb vs lm0)) :: (181, mtl ts) :: [(182, ia nw), (187, lng nz), (200, ia li)])) (some (.int v), h2) ∧ hq h2 180 10 = some (.int kk)) ∨ ∃ L hT, RQ 180 181 0 (lv_args 0 [.ref 180, .int z]) [] (ov H ((180, mcl p0 (Int32.ofNat n) sz1 lim1 a1x fr1 kd1x nu1x sg1x fa1 pl1x wd1x td1x (posb vs lm0)) :: (181, mtl ts) :: [(182, ia nw), (187, lng nz), (200, ia li)])) (65, L, [], hT) ∧ KP 180 11 10 (.int kk) hT := by
  have hl : 400 ≤ 940 := by decide
  have cb := tc_begin (B := B) (n := n) (lim := 400) (po := posb vs lm0) (k := 0) (a := 0) (tk := Int32.ofNat 0) (td := td1x) (fp := Int32.ofNat 0) (nuM := nu1x) (sg := sg1x) (plM := pl1x) (wd := wd1x) hb (Nat.zero_le n) (Nat.le_refl 0)
  have hxo : ∀ H : List AE, Nat.ble 204 H.length = true → H[1]? = some (tcl n lim0 a0 kd0 pl0 w0 le0 nu0 tk0 fa0 fp0) → H[2]? = some (bcl bs) → FR 4 161 [.ref 1, .int (Int32.ofNat 400)] H (none, ov H [(1, advC B n 400 0 (Int32.ofNat 0) (Int32.ofNat 0) (Int32.ofNat 0))]) := fun H hlen h1 h2 => x_open hB hlen h1 h2 hn hl
  have hmb : ∀ H : List AE, Nat.ble 204 H.length = true → H[180]? = some (mcl (Int32.ofNat 0) (Int32.ofNat n) sz1 lim1 a1x fr1 kd1x nu1x sg1x fa1 pl1x wd1x td1x (posb vs lm0)) → H[181]? = some (mtl ts) → FR 3 176 [.ref 180, .int (Int32.ofNat 400)] H (none, ov H [(180, mcl (Int32.ofNat 0) (Int32.ofNat 0) n 400 (goV B n 400 0 nu1x sg1x wd1x).1 (goV B n 400 0 nu1x sg1x wd1x).2.1 (goV B n 400 0 nu1x sg1x wd1x).2.2.1 (goV B n 400 0 nu1x sg1x wd1x).2.2.2.1 (goV B n 400 0 nu1x sg1x wd1x).2.2.2.2.1 (Int32.ofNat 0) pl1x (goV B n 400 0 nu1x sg1x wd1x).2.2.2.2.2 td1x (posb vs lm0))]) := fun H hlen h1 h2 => m_begin hM hlen h1 h2 hn hl
  generalize advC B n 400 0 (Int32.ofNat 0) (Int32.ofNat 0) (Int32.ofNat 0) = T at cb hxo
  generalize mcl (Int32.ofNat 0) (Int32.ofNat 0) n 400 (goV B n 400 0 nu1x sg1x wd1x).1 (goV B n 400 0 nu1x sg1x wd1x).2.1 (goV B n 400 0 nu1x sg1x wd1x).2.2.1 (goV B n 400 0 nu1x sg1x wd1x).2.2.2.1 (goV B n 400 0 nu1x sg1x wd1x).2.2.2.2.1 (Int32.ofNat 0) pl1x (goV B n 400 0 nu1x sg1x wd1x).2.2.2.2.2 td1x (posb vs lm0) = M at cb hmb
  obtain ⟨a1, kd1, pl1, w1, le1, nu1, fp1, nm1, sg1, qm1, wd1, rfl, rfl, t1⟩ := cb
  rcases b_loop13 (vs := vs) (bv := bv) (Dn := Dn) (lw := lw) (cl := cl) (id := id) (gl := gl) (bo := bo) (ri := ri) (lf := lf) (wa := wa) (fo := fo) (ha := ha) (pa := pa) (bl := bl) hB hM hb hn hl hP hDn lp ld lz hv hv1 hN hN2 40 _ a1 kd1 pl1 w1 le1 nu1 (Int32.ofNat 0) td1x fp1 nm1 sg1 qm1 wd1 0 u1 u2 u3 u4 li rfl t1 ⟨by decide, e1, e2, e3, e4⟩ ln with ⟨T, M, o2, lm, v1, v2, v3, v4, li2, rv, f, g1, g2⟩ | ⟨k2, tk2, td2, T, M, o2, lm, v1, v2, v3, v4, li2, c2, g1, g2⟩
  · obtain ⟨a9, kd9, pl9, w9, le9, nu9, tk9, kk9, am9, fm9, kM9, nm9, sg9, fa9, qm9, wd9, td9, rfl, rfl, rfl, rfl, kk1, kk4⟩ := f
    have hy0 : ∀ H : List AE, Nat.ble 204 H.length = true → FR 40 54 [.ref 105, .ref 1, .ref 13] (ov H ((1, tcl n lim0 a0 kd0 pl0 w0 le0 nu0 tk0 fa0 fp0) :: (2, bcl bs) :: [(13, dcl13 P Dn lw cl id gl bo), (14, lng pn), (15, ia ri), (16, ia lf), (17, ia wa), (18, ia fo), (19, lng dn), (20, ia ha), (21, ia pa), (22, ia bl), (105, bkr c4 bv), (106, ia u1), (107, ia u2), (108, ia u3), (109, ia u4)])) (none, ov (ov H ((1, tcl n lim0 a0 kd0 pl0 w0 le0 nu0 tk0 fa0 fp0) :: (2, bcl bs) :: [(13, dcl13 P Dn lw cl id gl bo), (14, lng pn), (15, ia ri), (16, ia lf), (17, ia wa), (18, ia fo), (19, lng dn), (20, ia ha), (21, ia pa), (22, ia bl), (105, bkr c4 bv), (106, ia u1), (107, ia u2), (108, ia u3), (109, ia u4)])) [(1, tcl n 400 a9 kd9 pl9 w9 le9 nu9 tk9 (Int32.ofNat kk9) (Int32.ofNat pl9)), (105, bkc o2 bv), (106, ia v1), (107, ia v2), (108, ia v3), (109, ia v4)]) := fun H hlen => by
      refine FR_st2 (l2 := ((1, tcl n 400 a9 kd9 pl9 w9 le9 nu9 tk9 (Int32.ofNat kk9) (Int32.ofNat pl9)) :: (2, bcl bs) :: [(13, dcl13 P Dn lw cl id gl bo), (14, lng pn), (15, ia ri), (16, ia lf), (17, ia wa), (18, ia fo), (19, lng dn), (20, ia ha), (21, ia pa), (22, ia bl), (105, bkc o2 bv), (106, ia v1), (107, ia v2), (108, ia v3), (109, ia v4)])) rfl rfl rfl ?_
      refine RT_step (pc2 := 1) rfl (fun _ _ => rfl) ?_
      refine rt_ico rfl ki_0 ?_
      refine ow_pf (l2 := ((1, tcl n lim0 a0 kd0 pl0 w0 le0 nu0 tk0 fa0 fp0) :: (2, bcl bs) :: [(13, dcl13 P Dn lw cl id gl bo), (14, lng pn), (15, ia ri), (16, ia lf), (17, ia wa), (18, ia fo), (19, lng dn), (20, ia ha), (21, ia pa), (22, ia bl), (105, bkc 0 bv), (106, ia u1), (107, ia u2), (108, ia u3), (109, ia u4)])) rfl rfl rfl rfl rfl hlen rfl rfl ?_
      refine RT_step (pc2 := 6) rfl (fun _ _ => rfl) ?_
      refine rt_sip rfl k16_400 ?_
      refine ow_iv0 (l2 := ((1, tcl n 400 a1 kd1 pl1 w1 le1 nu1 (Int32.ofNat 0) (Int32.ofNat 0) fp1) :: (2, bcl bs) :: [(13, dcl13 P Dn lw cl id gl bo), (14, lng pn), (15, ia ri), (16, ia lf), (17, ia wa), (18, ia fo), (19, lng dn), (20, ia ha), (21, ia pa), (22, ia bl), (105, bkc 0 bv), (106, ia u1), (107, ia u2), (108, ia u3), (109, ia u4)])) rfl rfl rfl rfl hlen rfl rfl rfl ((hxo _ (ov_hl hlen) (ov_at rfl (ov_lt hlen (by decide))) (ov_at rfl (ov_lt hlen (by decide)))).up (by decide)) rfl ?_
      refine rt_ico rfl ki_0 ?_
      refine RT_step (pc2 := 14) rfl (fun _ _ => rfl) ?_
      exact g1 H 25 _ hlen rfl rfl rfl rfl
    refine ⟨Int32.ofNat kk9, fun H hlen => Or.inl ?_, fun H hlen => Or.inl ?_⟩
    · have hk : FR 1 41 [.ref 0] (ov H ((0, .inr (10, [.ref 1, .ref 13, .ref s0, .ref 23, .ref 31, .ref 39, .ref 105, .ref se, .ref ss, .ref 120, .ref 125, .ref 129, .ref 131, .int lt, .int fb, .int tq, .int gb])) :: ((1, tcl n 400 a9 kd9 pl9 w9 le9 nu9 tk9 (Int32.ofNat kk9) (Int32.ofNat pl9)) :: (2, bcl bs) :: [(13, dcl13 P Dn lw cl id gl bo), (14, lng pn), (15, ia ri), (16, ia lf), (17, ia wa), (18, ia fo), (19, lng dn), (20, ia ha), (21, ia pa), (22, ia bl), (105, bkc o2 bv), (106, ia v1), (107, ia v2), (108, ia v3), (109, ia v4)]))) (none, ov (ov H ((0, .inr (10, [.ref 1, .ref 13, .ref s0, .ref 23, .ref 31, .ref 39, .ref 105, .ref se, .ref ss, .ref 120, .ref 125, .ref 129, .ref 131, .int lt, .int fb, .int tq, .int gb])) :: ((1, tcl n 400 a9 kd9 pl9 w9 le9 nu9 tk9 (Int32.ofNat kk9) (Int32.ofNat pl9)) :: (2, bcl bs) :: [(13, dcl13 P Dn lw cl id gl bo), (14, lng pn), (15, ia ri), (16, ia lf), (17, ia wa), (18, ia fo), (19, lng dn), (20, ia ha), (21, ia pa), (22, ia bl), (105, bkc o2 bv), (106, ia v1), (107, ia v2), (108, ia v3), (109, ia v4)]))) [(0, .inr (10, [.ref 1, .ref 13, .ref s0, .ref 23, .ref 31, .ref 39, .ref 105, .ref se, .ref ss, .ref 120, .ref 125, .ref 129, .ref 131, .int (Int32.ofNat kk9), .int fb, .int tq, .int gb])), (1, tcl 0 400 a9 kd9 pl9 w9 le9 nu9 tk9 (Int32.ofNat kk9) (Int32.ofNat pl9))]) := by
        refine FR_st2 (l2 := ((0, .inr (10, [.ref 1, .ref 13, .ref s0, .ref 23, .ref 31, .ref 39, .ref 105, .ref se, .ref ss, .ref 120, .ref 125, .ref 129, .ref 131, .int (Int32.ofNat kk9), .int fb, .int tq, .int gb])) :: ((1, tcl 0 400 a9 kd9 pl9 w9 le9 nu9 tk9 (Int32.ofNat kk9) (Int32.ofNat pl9)) :: (2, bcl bs) :: [(13, dcl13 P Dn lw cl id gl bo), (14, lng pn), (15, ia ri), (16, ia lf), (17, ia wa), (18, ia fo), (19, lng dn), (20, ia ha), (21, ia pa), (22, ia bl), (105, bkc o2 bv), (106, ia v1), (107, ia v2), (108, ia v3), (109, ia v4)]))) rfl rfl rfl ?_
        refine RT_step (pc2 := 1) rfl (fun _ _ => rfl) ?_
        refine RT_step (pc2 := 2) rfl (fun _ _ => rfl) ?_
        refine ow_gf rfl rfl rfl hlen rfl ?_
        refine ow_gf rfl rfl rfl hlen rfl ?_
        refine ow_pf (l2 := ((0, .inr (10, [.ref 1, .ref 13, .ref s0, .ref 23, .ref 31, .ref 39, .ref 105, .ref se, .ref ss, .ref 120, .ref 125, .ref 129, .ref 131, .int (Int32.ofNat kk9), .int fb, .int tq, .int gb])) :: ((1, tcl n 400 a9 kd9 pl9 w9 le9 nu9 tk9 (Int32.ofNat kk9) (Int32.ofNat pl9)) :: (2, bcl bs) :: [(13, dcl13 P Dn lw cl id gl bo), (14, lng pn), (15, ia ri), (16, ia lf), (17, ia wa), (18, ia fo), (19, lng dn), (20, ia ha), (21, ia pa), (22, ia bl), (105, bkc o2 bv), (106, ia v1), (107, ia v2), (108, ia v3), (109, ia v4)]))) rfl rfl rfl rfl rfl hlen rfl rfl ?_
        refine RT_step (pc2 := 12) rfl (fun _ _ => rfl) ?_
        refine ow_gf rfl rfl rfl hlen rfl ?_
        refine rt_ico rfl ki_0 ?_
        refine ow_pf (l2 := ((0, .inr (10, [.ref 1, .ref 13, .ref s0, .ref 23, .ref 31, .ref 39, .ref 105, .ref se, .ref ss, .ref 120, .ref 125, .ref 129, .ref 131, .int (Int32.ofNat kk9), .int fb, .int tq, .int gb])) :: ((1, tcl 0 400 a9 kd9 pl9 w9 le9 nu9 tk9 (Int32.ofNat kk9) (Int32.ofNat pl9)) :: (2, bcl bs) :: [(13, dcl13 P Dn lw cl id gl bo), (14, lng pn), (15, ia ri), (16, ia lf), (17, ia wa), (18, ia fo), (19, lng dn), (20, ia ha), (21, ia pa), (22, ia bl), (105, bkc o2 bv), (106, ia v1), (107, ia v2), (108, ia v3), (109, ia v4)]))) rfl rfl rfl rfl rfl hlen rfl rfl ?_
        exact ow_ret rfl rfl rfl
      refine ⟨(-2 : Int32) - Int32.ofNat pl9, ov H ((0, .inr (10, [.ref 1, .ref 13, .ref s0, .ref 23, .ref 31, .ref 39, .ref 105, .ref se, .ref ss, .ref 120, .ref 125, .ref 129, .ref 131, .int (Int32.ofNat kk9), .int fb, .int tq, .int gb])) :: ((1, tcl 0 400 a9 kd9 pl9 w9 le9 nu9 tk9 (Int32.ofNat kk9) (Int32.ofNat pl9)) :: (2, bcl bs) :: [(13, dcl13 P Dn lw cl id gl bo), (14, lng pn), (15, ia ri), (16, ia lf), (17, ia wa), (18, ia fo), (19, lng dn), (20, ia ha), (21, ia pa), (22, ia bl), (105, bkc o2 bv), (106, ia v1), (107, ia v2), (108, ia v3), (109, ia v4)])), FR_of rfl ?_, (hq_obj (ov_at rfl (ov_lt hlen (by decide)))).trans rfl⟩
      rcases hz with rfl | rfl
      · refine RT_step (pc2 := 1) rfl (fun _ _ => rfl) ?_
        refine bcT_eq rfl rfl ?_
        refine RT_step (pc2 := 14) rfl (fun _ _ => rfl) ?_
        refine ow_gf rfl rfl rfl hlen rfl ?_
        refine RT_step (pc2 := 18) rfl (fun _ _ => rfl) ?_
        refine ow_gf rfl rfl rfl hlen rfl ?_
        refine RT_step (pc2 := 22) rfl (fun _ _ => rfl) ?_
        refine ow_gf rfl rfl rfl hlen rfl ?_
        refine ow_iv0 (l2 := ((0, .inr (10, [.ref 1, .ref 13, .ref s0, .ref 23, .ref 31, .ref 39, .ref 105, .ref se, .ref ss, .ref 120, .ref 125, .ref 129, .ref 131, .int lt, .int fb, .int tq, .int gb])) :: ((1, tcl n 400 a9 kd9 pl9 w9 le9 nu9 tk9 (Int32.ofNat kk9) (Int32.ofNat pl9)) :: (2, bcl bs) :: [(13, dcl13 P Dn lw cl id gl bo), (14, lng pn), (15, ia ri), (16, ia lf), (17, ia wa), (18, ia fo), (19, lng dn), (20, ia ha), (21, ia pa), (22, ia bl), (105, bkc o2 bv), (106, ia v1), (107, ia v2), (108, ia v3), (109, ia v4)]))) rfl rfl rfl rfl hlen rfl rfl rfl ((lr_y0 hy0 hlen).up (by decide)) rfl ?_
        refine RT_step (pc2 := 29) rfl (fun _ _ => rfl) ?_
        refine ow_iv0 (l2 := ((0, .inr (10, [.ref 1, .ref 13, .ref s0, .ref 23, .ref 31, .ref 39, .ref 105, .ref se, .ref ss, .ref 120, .ref 125, .ref 129, .ref 131, .int (Int32.ofNat kk9), .int fb, .int tq, .int gb])) :: ((1, tcl 0 400 a9 kd9 pl9 w9 le9 nu9 tk9 (Int32.ofNat kk9) (Int32.ofNat pl9)) :: (2, bcl bs) :: [(13, dcl13 P Dn lw cl id gl bo), (14, lng pn), (15, ia ri), (16, ia lf), (17, ia wa), (18, ia fo), (19, lng dn), (20, ia ha), (21, ia pa), (22, ia bl), (105, bkc o2 bv), (106, ia v1), (107, ia v2), (108, ia v3), (109, ia v4)]))) rfl rfl rfl rfl hlen rfl rfl rfl (hk.up (by decide)) rfl ?_
        refine RT_step (pc2 := 33) rfl (fun _ _ => rfl) ?_
        refine ow_gf rfl rfl rfl hlen rfl ?_
        refine bcF_eq rfl (n_ne (b := 0) (by omega) (by omega) (by decide)) ?_
        refine rt_bip rfl k8_m2 ?_
        refine RT_step (pc2 := 42) rfl (fun _ _ => rfl) ?_
        refine ow_gf rfl rfl rfl hlen rfl ?_
        refine ow_gf rfl rfl rfl hlen rfl ?_
        refine ba_isub rfl ?_
        exact ow_irt rfl rfl rfl
      · refine RT_step (pc2 := 1) rfl (fun _ _ => rfl) ?_
        refine bcF_eq rfl (by decide) ?_
        refine RT_step (pc2 := 5) rfl (fun _ _ => rfl) ?_
        refine rt_ico rfl ki_1 ?_
        refine biT_eq rfl rfl ?_
        refine RT_step (pc2 := 14) rfl (fun _ _ => rfl) ?_
        refine ow_gf rfl rfl rfl hlen rfl ?_
        refine RT_step (pc2 := 18) rfl (fun _ _ => rfl) ?_
        refine ow_gf rfl rfl rfl hlen rfl ?_
        refine RT_step (pc2 := 22) rfl (fun _ _ => rfl) ?_
        refine ow_gf rfl rfl rfl hlen rfl ?_
        refine ow_iv0 (l2 := ((0, .inr (10, [.ref 1, .ref 13, .ref s0, .ref 23, .ref 31, .ref 39, .ref 105, .ref se, .ref ss, .ref 120, .ref 125, .ref 129, .ref 131, .int lt, .int fb, .int tq, .int gb])) :: ((1, tcl n 400 a9 kd9 pl9 w9 le9 nu9 tk9 (Int32.ofNat kk9) (Int32.ofNat pl9)) :: (2, bcl bs) :: [(13, dcl13 P Dn lw cl id gl bo), (14, lng pn), (15, ia ri), (16, ia lf), (17, ia wa), (18, ia fo), (19, lng dn), (20, ia ha), (21, ia pa), (22, ia bl), (105, bkc o2 bv), (106, ia v1), (107, ia v2), (108, ia v3), (109, ia v4)]))) rfl rfl rfl rfl hlen rfl rfl rfl ((lr_y0 hy0 hlen).up (by decide)) rfl ?_
        refine RT_step (pc2 := 29) rfl (fun _ _ => rfl) ?_
        refine ow_iv0 (l2 := ((0, .inr (10, [.ref 1, .ref 13, .ref s0, .ref 23, .ref 31, .ref 39, .ref 105, .ref se, .ref ss, .ref 120, .ref 125, .ref 129, .ref 131, .int (Int32.ofNat kk9), .int fb, .int tq, .int gb])) :: ((1, tcl 0 400 a9 kd9 pl9 w9 le9 nu9 tk9 (Int32.ofNat kk9) (Int32.ofNat pl9)) :: (2, bcl bs) :: [(13, dcl13 P Dn lw cl id gl bo), (14, lng pn), (15, ia ri), (16, ia lf), (17, ia wa), (18, ia fo), (19, lng dn), (20, ia ha), (21, ia pa), (22, ia bl), (105, bkc o2 bv), (106, ia v1), (107, ia v2), (108, ia v3), (109, ia v4)]))) rfl rfl rfl rfl hlen rfl rfl rfl (hk.up (by decide)) rfl ?_
        refine RT_step (pc2 := 33) rfl (fun _ _ => rfl) ?_
        refine ow_gf rfl rfl rfl hlen rfl ?_
        refine bcF_eq rfl (n_ne (b := 0) (by omega) (by omega) (by decide)) ?_
        refine rt_bip rfl k8_m2 ?_
        refine RT_step (pc2 := 42) rfl (fun _ _ => rfl) ?_
        refine ow_gf rfl rfl rfl hlen rfl ?_
        refine ow_gf rfl rfl rfl hlen rfl ?_
        refine ba_isub rfl ?_
        exact ow_irt rfl rfl rfl
    · refine ⟨rv, ov H ((180, mcl (Int32.ofNat 0) (Int32.ofNat 0) n 400 am9 fm9 kM9 nm9 sg9 (Int32.ofNat kk9) (Int32.ofNat pl9) wd9 td9 (posb vs lm)) :: (181, mtl ts) :: [(182, ia nw), (187, lng nz), (200, ia li2)]), FR_of rfl ?_, (hq_obj (ov_at rfl (ov_lt hlen (by decide)))).trans rfl⟩
      rcases hz with rfl | rfl
      · refine RT_step (pc2 := 1) rfl (fun _ _ => rfl) ?_
        refine rt_ico rfl ki_0 ?_
        refine ow_pf (l2 := ((180, mcl (Int32.ofNat 0) (Int32.ofNat n) sz1 lim1 a1x fr1 kd1x nu1x sg1x fa1 pl1x wd1x td1x (posb vs lm0)) :: (181, mtl ts) :: [(182, ia nw), (187, lng nz), (200, ia li)])) rfl rfl rfl rfl rfl hlen rfl rfl ?_
        refine RT_step (pc2 := 6) rfl (fun _ _ => rfl) ?_
        refine rt_ico rfl ki_0 ?_
        refine rt_ico rfl ki_1 ?_
        refine ow_is1 (l2 := ((180, mcl (Int32.ofNat 0) (Int32.ofNat n) sz1 lim1 a1x fr1 kd1x nu1x sg1x fa1 pl1x wd1x td1x (posb vs lm0)) :: (181, mtl ts) :: [(182, ia nw), (187, lng nz), (200, ia li)])) rfl rfl rfl rfl rfl ((m_isIb (by decide) (by decide)).up (by decide)) rfl ?_
        refine bcF_ne rfl (by decide) ?_
        refine RT_step (pc2 := 19) rfl (fun _ _ => rfl) ?_
        refine rt_sip rfl k16_400 ?_
        refine ow_iv0 (l2 := ((180, mcl (Int32.ofNat 0) (Int32.ofNat 0) n 400 a1 pl1 (km kd1) nm1 sg1 (Int32.ofNat 0) qm1 wd1 td1x (posb vs lm0)) :: (181, mtl ts) :: [(182, ia nw), (187, lng nz), (200, ia li)])) rfl rfl rfl rfl hlen rfl rfl rfl ((hmb _ (ov_hl hlen) (ov_at rfl (ov_lt hlen (by decide))) (ov_at rfl (ov_lt hlen (by decide)))).up (by decide)) rfl ?_
        refine RT_step (pc2 := 26) rfl (fun _ _ => rfl) ?_
        refine rt_ico rfl ki_0 ?_
        refine ow_pf (l2 := ((180, mcl (Int32.ofNat 0) (Int32.ofNat 0) n 400 a1 pl1 (km kd1) nm1 sg1 (Int32.ofNat 0) qm1 wd1 td1x (posb vs 0)) :: (181, mtl ts) :: [(182, ia nw), (187, lng nz), (200, ia li)])) rfl rfl rfl rfl rfl hlen rfl rfl ?_
        exact g2 H 174 _ hlen rfl
      · refine RT_step (pc2 := 1) rfl (fun _ _ => rfl) ?_
        refine rt_ico rfl ki_0 ?_
        refine ow_pf (l2 := ((180, mcl (Int32.ofNat 0) (Int32.ofNat n) sz1 lim1 a1x fr1 kd1x nu1x sg1x fa1 pl1x wd1x td1x (posb vs lm0)) :: (181, mtl ts) :: [(182, ia nw), (187, lng nz), (200, ia li)])) rfl rfl rfl rfl rfl hlen rfl rfl ?_
        refine RT_step (pc2 := 6) rfl (fun _ _ => rfl) ?_
        refine rt_ico rfl ki_0 ?_
        refine rt_ico rfl ki_1 ?_
        refine ow_is1 (l2 := ((180, mcl (Int32.ofNat 0) (Int32.ofNat n) sz1 lim1 a1x fr1 kd1x nu1x sg1x fa1 pl1x wd1x td1x (posb vs lm0)) :: (181, mtl ts) :: [(182, ia nw), (187, lng nz), (200, ia li)])) rfl rfl rfl rfl rfl ((m_isIb (by decide) (by decide)).up (by decide)) rfl ?_
        refine bcF_ne rfl (by decide) ?_
        refine RT_step (pc2 := 19) rfl (fun _ _ => rfl) ?_
        refine rt_sip rfl k16_400 ?_
        refine ow_iv0 (l2 := ((180, mcl (Int32.ofNat 0) (Int32.ofNat 0) n 400 a1 pl1 (km kd1) nm1 sg1 (Int32.ofNat 0) qm1 wd1 td1x (posb vs lm0)) :: (181, mtl ts) :: [(182, ia nw), (187, lng nz), (200, ia li)])) rfl rfl rfl rfl hlen rfl rfl rfl ((hmb _ (ov_hl hlen) (ov_at rfl (ov_lt hlen (by decide))) (ov_at rfl (ov_lt hlen (by decide)))).up (by decide)) rfl ?_
        refine RT_step (pc2 := 26) rfl (fun _ _ => rfl) ?_
        refine rt_ico rfl ki_0 ?_
        refine ow_pf (l2 := ((180, mcl (Int32.ofNat 0) (Int32.ofNat 0) n 400 a1 pl1 (km kd1) nm1 sg1 (Int32.ofNat 0) qm1 wd1 td1x (posb vs 0)) :: (181, mtl ts) :: [(182, ia nw), (187, lng nz), (200, ia li)])) rfl rfl rfl rfl rfl hlen rfl rfl ?_
        exact g2 H 174 _ hlen rfl
  · obtain ⟨a2, kd2, pl2, w2, le2, nu2, fp2, nm2, sg2, qm2, wd2, rfl, rfl, t2⟩ := c2
    have hy0 : ∀ H : List AE, Nat.ble 204 H.length = true → FR 40 54 [.ref 105, .ref 1, .ref 13] (ov H ((1, tcl n lim0 a0 kd0 pl0 w0 le0 nu0 tk0 fa0 fp0) :: (2, bcl bs) :: [(13, dcl13 P Dn lw cl id gl bo), (14, lng pn), (15, ia ri), (16, ia lf), (17, ia wa), (18, ia fo), (19, lng dn), (20, ia ha), (21, ia pa), (22, ia bl), (105, bkr c4 bv), (106, ia u1), (107, ia u2), (108, ia u3), (109, ia u4)])) (none, ov (ov H ((1, tcl n lim0 a0 kd0 pl0 w0 le0 nu0 tk0 fa0 fp0) :: (2, bcl bs) :: [(13, dcl13 P Dn lw cl id gl bo), (14, lng pn), (15, ia ri), (16, ia lf), (17, ia wa), (18, ia fo), (19, lng dn), (20, ia ha), (21, ia pa), (22, ia bl), (105, bkr c4 bv), (106, ia u1), (107, ia u2), (108, ia u3), (109, ia u4)])) [(1, tcl n 400 a2 kd2 pl2 w2 le2 nu2 tk2 (Int32.ofNat 0) fp2), (105, bkc o2 bv), (106, ia v1), (107, ia v2), (108, ia v3), (109, ia v4)]) := fun H hlen => by
      refine FR_st2 (l2 := ((1, tcl n 400 a2 kd2 pl2 w2 le2 nu2 tk2 (Int32.ofNat 0) fp2) :: (2, bcl bs) :: [(13, dcl13 P Dn lw cl id gl bo), (14, lng pn), (15, ia ri), (16, ia lf), (17, ia wa), (18, ia fo), (19, lng dn), (20, ia ha), (21, ia pa), (22, ia bl), (105, bkc o2 bv), (106, ia v1), (107, ia v2), (108, ia v3), (109, ia v4)])) rfl rfl rfl ?_
      refine RT_step (pc2 := 1) rfl (fun _ _ => rfl) ?_
      refine rt_ico rfl ki_0 ?_
      refine ow_pf (l2 := ((1, tcl n lim0 a0 kd0 pl0 w0 le0 nu0 tk0 fa0 fp0) :: (2, bcl bs) :: [(13, dcl13 P Dn lw cl id gl bo), (14, lng pn), (15, ia ri), (16, ia lf), (17, ia wa), (18, ia fo), (19, lng dn), (20, ia ha), (21, ia pa), (22, ia bl), (105, bkc 0 bv), (106, ia u1), (107, ia u2), (108, ia u3), (109, ia u4)])) rfl rfl rfl rfl rfl hlen rfl rfl ?_
      refine RT_step (pc2 := 6) rfl (fun _ _ => rfl) ?_
      refine rt_sip rfl k16_400 ?_
      refine ow_iv0 (l2 := ((1, tcl n 400 a1 kd1 pl1 w1 le1 nu1 (Int32.ofNat 0) (Int32.ofNat 0) fp1) :: (2, bcl bs) :: [(13, dcl13 P Dn lw cl id gl bo), (14, lng pn), (15, ia ri), (16, ia lf), (17, ia wa), (18, ia fo), (19, lng dn), (20, ia ha), (21, ia pa), (22, ia bl), (105, bkc 0 bv), (106, ia u1), (107, ia u2), (108, ia u3), (109, ia u4)])) rfl rfl rfl rfl hlen rfl rfl rfl ((hxo _ (ov_hl hlen) (ov_at rfl (ov_lt hlen (by decide))) (ov_at rfl (ov_lt hlen (by decide)))).up (by decide)) rfl ?_
      refine rt_ico rfl ki_0 ?_
      refine RT_step (pc2 := 14) rfl (fun _ _ => rfl) ?_
      exact g1 H 25 _ hlen rfl rfl rfl rfl
    refine ⟨Int32.ofNat 0, fun H hlen => Or.inr ?_, fun H hlen => Or.inr ?_⟩
    · have hk : FR 1 41 [.ref 0] (ov H ((0, .inr (10, [.ref 1, .ref 13, .ref s0, .ref 23, .ref 31, .ref 39, .ref 105, .ref se, .ref ss, .ref 120, .ref 125, .ref 129, .ref 131, .int lt, .int fb, .int tq, .int gb])) :: ((1, tcl n 400 a2 kd2 pl2 w2 le2 nu2 tk2 (Int32.ofNat 0) fp2) :: (2, bcl bs) :: [(13, dcl13 P Dn lw cl id gl bo), (14, lng pn), (15, ia ri), (16, ia lf), (17, ia wa), (18, ia fo), (19, lng dn), (20, ia ha), (21, ia pa), (22, ia bl), (105, bkc o2 bv), (106, ia v1), (107, ia v2), (108, ia v3), (109, ia v4)]))) (none, ov (ov H ((0, .inr (10, [.ref 1, .ref 13, .ref s0, .ref 23, .ref 31, .ref 39, .ref 105, .ref se, .ref ss, .ref 120, .ref 125, .ref 129, .ref 131, .int lt, .int fb, .int tq, .int gb])) :: ((1, tcl n 400 a2 kd2 pl2 w2 le2 nu2 tk2 (Int32.ofNat 0) fp2) :: (2, bcl bs) :: [(13, dcl13 P Dn lw cl id gl bo), (14, lng pn), (15, ia ri), (16, ia lf), (17, ia wa), (18, ia fo), (19, lng dn), (20, ia ha), (21, ia pa), (22, ia bl), (105, bkc o2 bv), (106, ia v1), (107, ia v2), (108, ia v3), (109, ia v4)]))) [(0, .inr (10, [.ref 1, .ref 13, .ref s0, .ref 23, .ref 31, .ref 39, .ref 105, .ref se, .ref ss, .ref 120, .ref 125, .ref 129, .ref 131, .int (Int32.ofNat 0), .int fb, .int tq, .int gb])), (1, tcl 0 400 a2 kd2 pl2 w2 le2 nu2 tk2 (Int32.ofNat 0) fp2)]) := by
        refine FR_st2 (l2 := ((0, .inr (10, [.ref 1, .ref 13, .ref s0, .ref 23, .ref 31, .ref 39, .ref 105, .ref se, .ref ss, .ref 120, .ref 125, .ref 129, .ref 131, .int (Int32.ofNat 0), .int fb, .int tq, .int gb])) :: ((1, tcl 0 400 a2 kd2 pl2 w2 le2 nu2 tk2 (Int32.ofNat 0) fp2) :: (2, bcl bs) :: [(13, dcl13 P Dn lw cl id gl bo), (14, lng pn), (15, ia ri), (16, ia lf), (17, ia wa), (18, ia fo), (19, lng dn), (20, ia ha), (21, ia pa), (22, ia bl), (105, bkc o2 bv), (106, ia v1), (107, ia v2), (108, ia v3), (109, ia v4)]))) rfl rfl rfl ?_
        refine RT_step (pc2 := 1) rfl (fun _ _ => rfl) ?_
        refine RT_step (pc2 := 2) rfl (fun _ _ => rfl) ?_
        refine ow_gf rfl rfl rfl hlen rfl ?_
        refine ow_gf rfl rfl rfl hlen rfl ?_
        refine ow_pf (l2 := ((0, .inr (10, [.ref 1, .ref 13, .ref s0, .ref 23, .ref 31, .ref 39, .ref 105, .ref se, .ref ss, .ref 120, .ref 125, .ref 129, .ref 131, .int (Int32.ofNat 0), .int fb, .int tq, .int gb])) :: ((1, tcl n 400 a2 kd2 pl2 w2 le2 nu2 tk2 (Int32.ofNat 0) fp2) :: (2, bcl bs) :: [(13, dcl13 P Dn lw cl id gl bo), (14, lng pn), (15, ia ri), (16, ia lf), (17, ia wa), (18, ia fo), (19, lng dn), (20, ia ha), (21, ia pa), (22, ia bl), (105, bkc o2 bv), (106, ia v1), (107, ia v2), (108, ia v3), (109, ia v4)]))) rfl rfl rfl rfl rfl hlen rfl rfl ?_
        refine RT_step (pc2 := 12) rfl (fun _ _ => rfl) ?_
        refine ow_gf rfl rfl rfl hlen rfl ?_
        refine rt_ico rfl ki_0 ?_
        refine ow_pf (l2 := ((0, .inr (10, [.ref 1, .ref 13, .ref s0, .ref 23, .ref 31, .ref 39, .ref 105, .ref se, .ref ss, .ref 120, .ref 125, .ref 129, .ref 131, .int (Int32.ofNat 0), .int fb, .int tq, .int gb])) :: ((1, tcl 0 400 a2 kd2 pl2 w2 le2 nu2 tk2 (Int32.ofNat 0) fp2) :: (2, bcl bs) :: [(13, dcl13 P Dn lw cl id gl bo), (14, lng pn), (15, ia ri), (16, ia lf), (17, ia wa), (18, ia fo), (19, lng dn), (20, ia ha), (21, ia pa), (22, ia bl), (105, bkc o2 bv), (106, ia v1), (107, ia v2), (108, ia v3), (109, ia v4)]))) rfl rfl rfl rfl rfl hlen rfl rfl ?_
        exact ow_ret rfl rfl rfl
      refine ⟨lv_args 0 [.ref 0, .int z], ov H ((0, .inr (10, [.ref 1, .ref 13, .ref s0, .ref 23, .ref 31, .ref 39, .ref 105, .ref se, .ref ss, .ref 120, .ref 125, .ref 129, .ref 131, .int (Int32.ofNat 0), .int fb, .int tq, .int gb])) :: ((1, tcl 0 400 a2 kd2 pl2 w2 le2 nu2 tk2 (Int32.ofNat 0) fp2) :: (2, bcl bs) :: [(13, dcl13 P Dn lw cl id gl bo), (14, lng pn), (15, ia ri), (16, ia lf), (17, ia wa), (18, ia fo), (19, lng dn), (20, ia ha), (21, ia pa), (22, ia bl), (105, bkc o2 bv), (106, ia v1), (107, ia v2), (108, ia v3), (109, ia v4)])), ?_, ⟨_, ov_at rfl (ov_lt hlen (by decide)), rfl⟩⟩
      rcases hz with rfl | rfl
      · refine RQ_step (pc2 := 1) rfl (fun _ _ => rfl) ?_
        refine qbcT_eq rfl rfl ?_
        refine RQ_step (pc2 := 14) rfl (fun _ _ => rfl) ?_
        refine qow_gf rfl rfl rfl hlen rfl ?_
        refine RQ_step (pc2 := 18) rfl (fun _ _ => rfl) ?_
        refine qow_gf rfl rfl rfl hlen rfl ?_
        refine RQ_step (pc2 := 22) rfl (fun _ _ => rfl) ?_
        refine qow_gf rfl rfl rfl hlen rfl ?_
        refine qow_iv0 (l2 := ((0, .inr (10, [.ref 1, .ref 13, .ref s0, .ref 23, .ref 31, .ref 39, .ref 105, .ref se, .ref ss, .ref 120, .ref 125, .ref 129, .ref 131, .int lt, .int fb, .int tq, .int gb])) :: ((1, tcl n 400 a2 kd2 pl2 w2 le2 nu2 tk2 (Int32.ofNat 0) fp2) :: (2, bcl bs) :: [(13, dcl13 P Dn lw cl id gl bo), (14, lng pn), (15, ia ri), (16, ia lf), (17, ia wa), (18, ia fo), (19, lng dn), (20, ia ha), (21, ia pa), (22, ia bl), (105, bkc o2 bv), (106, ia v1), (107, ia v2), (108, ia v3), (109, ia v4)]))) rfl rfl rfl rfl hlen rfl rfl rfl ((lr_y0 hy0 hlen).up (by decide)) rfl ?_
        refine RQ_step (pc2 := 29) rfl (fun _ _ => rfl) ?_
        refine qow_iv0 (l2 := ((0, .inr (10, [.ref 1, .ref 13, .ref s0, .ref 23, .ref 31, .ref 39, .ref 105, .ref se, .ref ss, .ref 120, .ref 125, .ref 129, .ref 131, .int (Int32.ofNat 0), .int fb, .int tq, .int gb])) :: ((1, tcl 0 400 a2 kd2 pl2 w2 le2 nu2 tk2 (Int32.ofNat 0) fp2) :: (2, bcl bs) :: [(13, dcl13 P Dn lw cl id gl bo), (14, lng pn), (15, ia ri), (16, ia lf), (17, ia wa), (18, ia fo), (19, lng dn), (20, ia ha), (21, ia pa), (22, ia bl), (105, bkc o2 bv), (106, ia v1), (107, ia v2), (108, ia v3), (109, ia v4)]))) rfl rfl rfl rfl hlen rfl rfl rfl (hk.up (by decide)) rfl ?_
        refine RQ_step (pc2 := 33) rfl (fun _ _ => rfl) ?_
        refine qow_gf rfl rfl rfl hlen rfl ?_
        refine qbcT_eq rfl rfl ?_
        exact RQ_refl
      · refine RQ_step (pc2 := 1) rfl (fun _ _ => rfl) ?_
        refine qbcF_eq rfl (by decide) ?_
        refine RQ_step (pc2 := 5) rfl (fun _ _ => rfl) ?_
        refine qrt_ico rfl ki_1 ?_
        refine qbiT_eq rfl rfl ?_
        refine RQ_step (pc2 := 14) rfl (fun _ _ => rfl) ?_
        refine qow_gf rfl rfl rfl hlen rfl ?_
        refine RQ_step (pc2 := 18) rfl (fun _ _ => rfl) ?_
        refine qow_gf rfl rfl rfl hlen rfl ?_
        refine RQ_step (pc2 := 22) rfl (fun _ _ => rfl) ?_
        refine qow_gf rfl rfl rfl hlen rfl ?_
        refine qow_iv0 (l2 := ((0, .inr (10, [.ref 1, .ref 13, .ref s0, .ref 23, .ref 31, .ref 39, .ref 105, .ref se, .ref ss, .ref 120, .ref 125, .ref 129, .ref 131, .int lt, .int fb, .int tq, .int gb])) :: ((1, tcl n 400 a2 kd2 pl2 w2 le2 nu2 tk2 (Int32.ofNat 0) fp2) :: (2, bcl bs) :: [(13, dcl13 P Dn lw cl id gl bo), (14, lng pn), (15, ia ri), (16, ia lf), (17, ia wa), (18, ia fo), (19, lng dn), (20, ia ha), (21, ia pa), (22, ia bl), (105, bkc o2 bv), (106, ia v1), (107, ia v2), (108, ia v3), (109, ia v4)]))) rfl rfl rfl rfl hlen rfl rfl rfl ((lr_y0 hy0 hlen).up (by decide)) rfl ?_
        refine RQ_step (pc2 := 29) rfl (fun _ _ => rfl) ?_
        refine qow_iv0 (l2 := ((0, .inr (10, [.ref 1, .ref 13, .ref s0, .ref 23, .ref 31, .ref 39, .ref 105, .ref se, .ref ss, .ref 120, .ref 125, .ref 129, .ref 131, .int (Int32.ofNat 0), .int fb, .int tq, .int gb])) :: ((1, tcl 0 400 a2 kd2 pl2 w2 le2 nu2 tk2 (Int32.ofNat 0) fp2) :: (2, bcl bs) :: [(13, dcl13 P Dn lw cl id gl bo), (14, lng pn), (15, ia ri), (16, ia lf), (17, ia wa), (18, ia fo), (19, lng dn), (20, ia ha), (21, ia pa), (22, ia bl), (105, bkc o2 bv), (106, ia v1), (107, ia v2), (108, ia v3), (109, ia v4)]))) rfl rfl rfl rfl hlen rfl rfl rfl (hk.up (by decide)) rfl ?_
        refine RQ_step (pc2 := 33) rfl (fun _ _ => rfl) ?_
        refine qow_gf rfl rfl rfl hlen rfl ?_
        refine qbcT_eq rfl rfl ?_
        exact RQ_refl
    · refine ⟨lv_args 0 [.ref 180, .int z], ov H ((180, mcl (Int32.ofNat 0) (Int32.ofNat 0) n 400 a2 pl2 (km kd2) nm2 sg2 (Int32.ofNat 0) qm2 wd2 td2 (posb vs lm)) :: (181, mtl ts) :: [(182, ia nw), (187, lng nz), (200, ia li2)]), ?_, ⟨_, ov_at rfl (ov_lt hlen (by decide)), rfl⟩⟩
      rcases hz with rfl | rfl
      · refine RQ_step (pc2 := 1) rfl (fun _ _ => rfl) ?_
        refine qrt_ico rfl ki_0 ?_
        refine qow_pf (l2 := ((180, mcl (Int32.ofNat 0) (Int32.ofNat n) sz1 lim1 a1x fr1 kd1x nu1x sg1x fa1 pl1x wd1x td1x (posb vs lm0)) :: (181, mtl ts) :: [(182, ia nw), (187, lng nz), (200, ia li)])) rfl rfl rfl rfl rfl hlen rfl rfl ?_
        refine RQ_step (pc2 := 6) rfl (fun _ _ => rfl) ?_
        refine qrt_ico rfl ki_0 ?_
        refine qrt_ico rfl ki_1 ?_
        refine qow_is1 (l2 := ((180, mcl (Int32.ofNat 0) (Int32.ofNat n) sz1 lim1 a1x fr1 kd1x nu1x sg1x fa1 pl1x wd1x td1x (posb vs lm0)) :: (181, mtl ts) :: [(182, ia nw), (187, lng nz), (200, ia li)])) rfl rfl rfl rfl rfl ((m_isIb (by decide) (by decide)).up (by decide)) rfl ?_
        refine qbcF_ne rfl (by decide) ?_
        refine RQ_step (pc2 := 19) rfl (fun _ _ => rfl) ?_
        refine qrt_sip rfl k16_400 ?_
        refine qow_iv0 (l2 := ((180, mcl (Int32.ofNat 0) (Int32.ofNat 0) n 400 a1 pl1 (km kd1) nm1 sg1 (Int32.ofNat 0) qm1 wd1 td1x (posb vs lm0)) :: (181, mtl ts) :: [(182, ia nw), (187, lng nz), (200, ia li)])) rfl rfl rfl rfl hlen rfl rfl rfl ((hmb _ (ov_hl hlen) (ov_at rfl (ov_lt hlen (by decide))) (ov_at rfl (ov_lt hlen (by decide)))).up (by decide)) rfl ?_
        refine RQ_step (pc2 := 26) rfl (fun _ _ => rfl) ?_
        refine qrt_ico rfl ki_0 ?_
        refine qow_pf (l2 := ((180, mcl (Int32.ofNat 0) (Int32.ofNat 0) n 400 a1 pl1 (km kd1) nm1 sg1 (Int32.ofNat 0) qm1 wd1 td1x (posb vs 0)) :: (181, mtl ts) :: [(182, ia nw), (187, lng nz), (200, ia li)])) rfl rfl rfl rfl rfl hlen rfl rfl ?_
        exact g2 H 165 _ hlen rfl
      · refine RQ_step (pc2 := 1) rfl (fun _ _ => rfl) ?_
        refine qrt_ico rfl ki_0 ?_
        refine qow_pf (l2 := ((180, mcl (Int32.ofNat 0) (Int32.ofNat n) sz1 lim1 a1x fr1 kd1x nu1x sg1x fa1 pl1x wd1x td1x (posb vs lm0)) :: (181, mtl ts) :: [(182, ia nw), (187, lng nz), (200, ia li)])) rfl rfl rfl rfl rfl hlen rfl rfl ?_
        refine RQ_step (pc2 := 6) rfl (fun _ _ => rfl) ?_
        refine qrt_ico rfl ki_0 ?_
        refine qrt_ico rfl ki_1 ?_
        refine qow_is1 (l2 := ((180, mcl (Int32.ofNat 0) (Int32.ofNat n) sz1 lim1 a1x fr1 kd1x nu1x sg1x fa1 pl1x wd1x td1x (posb vs lm0)) :: (181, mtl ts) :: [(182, ia nw), (187, lng nz), (200, ia li)])) rfl rfl rfl rfl rfl ((m_isIb (by decide) (by decide)).up (by decide)) rfl ?_
        refine qbcF_ne rfl (by decide) ?_
        refine RQ_step (pc2 := 19) rfl (fun _ _ => rfl) ?_
        refine qrt_sip rfl k16_400 ?_
        refine qow_iv0 (l2 := ((180, mcl (Int32.ofNat 0) (Int32.ofNat 0) n 400 a1 pl1 (km kd1) nm1 sg1 (Int32.ofNat 0) qm1 wd1 td1x (posb vs lm0)) :: (181, mtl ts) :: [(182, ia nw), (187, lng nz), (200, ia li)])) rfl rfl rfl rfl hlen rfl rfl rfl ((hmb _ (ov_hl hlen) (ov_at rfl (ov_lt hlen (by decide))) (ov_at rfl (ov_lt hlen (by decide)))).up (by decide)) rfl ?_
        refine RQ_step (pc2 := 26) rfl (fun _ _ => rfl) ?_
        refine qrt_ico rfl ki_0 ?_
        refine qow_pf (l2 := ((180, mcl (Int32.ofNat 0) (Int32.ofNat 0) n 400 a1 pl1 (km kd1) nm1 sg1 (Int32.ofNat 0) qm1 wd1 td1x (posb vs 0)) :: (181, mtl ts) :: [(182, ia nw), (187, lng nz), (200, ia li)])) rfl rfl rfl rfl rfl hlen rfl rfl ?_
        exact g2 H 165 _ hlen rfl
