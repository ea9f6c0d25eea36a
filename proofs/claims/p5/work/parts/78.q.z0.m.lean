section
/-! ===== opening a text; zeros ===== -/
def zl (l : List Int32) : Nat → Nat → List Int32
  | 0, _ => l
  | r + 1, i => zl (l.set i (Int32.ofNat 0)) r (i + 1)
theorem zl_len : ∀ {r i : Nat} {l : List Int32}, (zl l r i).length = l.length
  | 0, _, _ => rfl
  | r + 1, i, l => by
    show (zl (l.set i (Int32.ofNat 0)) r (i + 1)).length = _
    rw [zl_len, List.length_set]
theorem zl_no : ∀ {r i j : Nat} {l : List Int32}, (j < i ∨ i + r ≤ j) → (zl l r i)[j]? = l[j]?
  | 0, _, _, _, _ => rfl
  | r + 1, i, j, l, h => by
    show (zl (l.set i (Int32.ofNat 0)) r (i + 1))[j]? = _
    rw [zl_no (by omega), List.getElem?_set_ne (by omega)]
theorem zl_at : ∀ {r i j : Nat} {l : List Int32}, i ≤ j → j < i + r → j < l.length → (zl l r i)[j]? = some (Int32.ofNat 0)
  | 0, i, j, l, h1, h2, _ => by omega
  | r + 1, i, j, l, h1, h2, h3 => by
    show (zl (l.set i (Int32.ofNat 0)) r (i + 1))[j]? = _
    by_cases c : i = j
    · subst c
      rw [zl_no (Or.inl (Nat.lt_succ_self i)), List.getElem?_set_self h3]
    · exact zl_at (by omega) (by omega) (by rw [List.length_set]; exact h3)
/-- a DUCHY that is read: its numbers are told -/
def DF (P Dn : Nat) (lw cl id : Int32) (gl bo : Nat) (pn : List Int64) (ri lf wa fo : List Int32) (dn : List Int64) (ha pa bl : List Int32) (rd : List Int32) (rn : List Int64) : Prop :=
  P ≤ 7 ∧ Dn ≤ 8 ∧ DL pn ri lf wa fo dn ha pa bl ∧ NR P Dn pn dn rn ∧ VR P Dn gl bo ri lf fo ha pa bl rd ∧ WA P wa rd ∧ rd[2]? = some lw ∧ rd[3]? = some cl ∧ rd[4]? = some id
def FC2 (n lim : Nat) (po : List Value) (pl : Nat) (T M : AE) : Prop := ∃ (a kd w : Nat) (le : Int64) (nu tk : Int32) (kk am fm kM : Nat) (nuM sg fa qm : Int32) (wd : Int64) (td : Int32), T = tcl n lim a kd pl w le nu tk (Int32.ofNat kk) (Int32.ofNat pl) ∧ M = mcl (Int32.ofNat 0) (Int32.ofNat 0) n lim am fm kM nuM sg fa qm wd td po ∧ fa = Int32.ofNat kk ∧ qm = Int32.ofNat pl ∧ 1 ≤ kk ∧ kk ≤ 4
def SE3 (D R : List (Nat × AE)) : Prop := ∃ (P : Nat) (Dn : Nat) (lw : Int32) (cl : Int32) (id : Int32) (gl : Nat) (bo : Nat) (pn : List Int64) (ri : List Int32) (lf : List Int32) (wa : List Int32) (fo : List Int32) (dn : List Int64) (ha : List Int32) (pa : List Int32) (bl : List Int32) (rd : List Int32) (rn : List Int64) (on : List Int32), D = [(3, dcl3 P Dn lw cl id gl bo), (4, lng pn), (5, ia ri), (6, ia lf), (7, ia wa), (8, ia fo), (9, lng dn), (10, ia ha), (11, ia pa), (12, ia bl)] ∧ R = [(183, ia rd), (188, lng rn), (191, zb on)] ∧ rd.length = 101 ∧ rn.length = 15 ∧ DF P Dn lw cl id gl bo pn ri lf wa fo dn ha pa bl rd rn
def SE13 (D R : List (Nat × AE)) : Prop := ∃ (P : Nat) (Dn : Nat) (lw : Int32) (cl : Int32) (id : Int32) (gl : Nat) (bo : Nat) (pn : List Int64) (ri : List Int32) (lf : List Int32) (wa : List Int32) (fo : List Int32) (dn : List Int64) (ha : List Int32) (pa : List Int32) (bl : List Int32) (rd : List Int32) (rn : List Int64) (on : List Int32), D = [(13, dcl13 P Dn lw cl id gl bo), (14, lng pn), (15, ia ri), (16, ia lf), (17, ia wa), (18, ia fo), (19, lng dn), (20, ia ha), (21, ia pa), (22, ia bl)] ∧ R = [(183, ia rd), (188, lng rn), (191, zb on)] ∧ rd.length = 101 ∧ rn.length = 15 ∧ DF P Dn lw cl id gl bo pn ri lf wa fo dn ha pa bl rd rn
theorem x_open {H : List AE} {bs : List Int32} {B : Nat → Nat} (hB : BY bs B) (hlen : Nat.ble 204 H.length = true) {n lim0 a0 kd0 pl0 w0 : Nat} {le0 : Int64} {nu0 tk0 fa0 fp0 : Int32} {lim : Nat} (h1 : H[1]? = some (tcl n lim0 a0 kd0 pl0 w0 le0 nu0 tk0 fa0 fp0)) (h2 : H[2]? = some (bcl bs)) (hn : n ≤ 940) (hl : lim ≤ 940) : FR 4 161 [.ref 1, .int (Int32.ofNat lim)] H (none, ov H [(1, advC B n lim 0 (Int32.ofNat 0) (Int32.ofNat 0) (Int32.ofNat 0))]) := by
  refine FR_ov (l := [(1, tcl n lim0 a0 kd0 pl0 w0 le0 nu0 tk0 fa0 fp0), (2, bcl bs)]) (l2 := [(1, advC B n lim 0 (Int32.ofNat 0) (Int32.ofNat 0) (Int32.ofNat 0)), (2, bcl bs)]) (ov_id h1 (ov_c1 h2)) rfl (ov_2 h2) ?_
  refine RT_step (pc2 := 1) rfl (fun _ _ => rfl) ?_
  refine RT_step (pc2 := 2) rfl (fun _ _ => rfl) ?_
  refine ow_pf rfl rfl rfl rfl rfl hlen rfl rfl ?_
  refine RT_step (pc2 := 6) rfl (fun _ _ => rfl) ?_
  refine rt_ico rfl ki_0 ?_
  refine ow_pf rfl rfl rfl rfl rfl hlen rfl rfl ?_
  refine RT_step (pc2 := 11) rfl (fun _ _ => rfl) ?_
  refine rt_ico rfl ki_0 ?_
  refine ow_pf rfl rfl rfl rfl rfl hlen rfl rfl ?_
  refine RT_step (pc2 := 16) rfl (fun _ _ => rfl) ?_
  refine rt_ico rfl ki_0 ?_
  refine ow_pf rfl rfl rfl rfl rfl hlen rfl rfl ?_
  refine RT_step (pc2 := 21) rfl (fun _ _ => rfl) ?_
  refine rt_ico rfl ki_0 ?_
  refine ow_pf rfl rfl rfl rfl rfl hlen rfl rfl ?_
  refine RT_step (pc2 := 26) rfl (fun _ _ => rfl) ?_
  refine ow_iv0 rfl rfl rfl rfl hlen rfl rfl rfl ((x_adv (n := n) (lim := lim) (a := 0) (kd := kd0) (pl := pl0) (w := w0) (le := le0) (nu := nu0) (tk := Int32.ofNat 0) (fa := Int32.ofNat 0) (fp := Int32.ofNat 0) hB (ov_hl hlen) (ov_at rfl (ov_lt hlen (by decide))) (ov_at rfl (ov_lt hlen (by decide))) (Nat.zero_le _) hn hl).up (by decide)) rfl ?_
  exact ow_ret rfl rfl rfl
theorem m_take {H : List AE} (hlen : Nat.ble 204 H.length = true) {n sz0 lim0 a0 fr0 kd0 : Nat} {p0 nu0 sg0 fa0 pl0 td0 : Int32} {wd0 : Int64} {po : List Value} (h1 : H[180]? = some (mcl p0 (Int32.ofNat n) sz0 lim0 a0 fr0 kd0 nu0 sg0 fa0 pl0 wd0 td0 po)) : FR 1 283 [.ref 180] H (some (.int (Int32.ofNat n)), ov H [(180, mcl p0 (Int32.ofNat 0) sz0 lim0 a0 fr0 kd0 nu0 sg0 fa0 pl0 wd0 td0 po)]) := by
  refine FR_ov (l := [(180, mcl p0 (Int32.ofNat n) sz0 lim0 a0 fr0 kd0 nu0 sg0 fa0 pl0 wd0 td0 po)]) (l2 := [(180, mcl p0 (Int32.ofNat 0) sz0 lim0 a0 fr0 kd0 nu0 sg0 fa0 pl0 wd0 td0 po)]) (ov_c1 h1) rfl rfl ?_
  refine RT_step (pc2 := 1) rfl (fun _ _ => rfl) ?_
  refine ow_gf rfl rfl rfl hlen rfl ?_
  refine RT_step (pc2 := 5) rfl (fun _ _ => rfl) ?_
  refine RT_step (pc2 := 6) rfl (fun _ _ => rfl) ?_
  refine rt_ico rfl ki_0 ?_
  refine ow_pf rfl rfl rfl rfl rfl hlen rfl rfl ?_
  refine RT_step (pc2 := 11) rfl (fun _ _ => rfl) ?_
  exact ow_irt rfl rfl rfl
theorem m_begin {H : List AE} {ts : List Int32} {B : Nat → Nat} (hM : MY ts B) (hlen : Nat.ble 204 H.length = true) {n sz0 lim0 a0 fr0 kd0 : Nat} {p0 nu0 sg0 fa0 pl0 td0 : Int32} {wd0 : Int64} {po : List Value} {lim : Nat} (h1 : H[180]? = some (mcl p0 (Int32.ofNat n) sz0 lim0 a0 fr0 kd0 nu0 sg0 fa0 pl0 wd0 td0 po)) (h2 : H[181]? = some (mtl ts)) (hn : n ≤ 940) (hl : lim ≤ 940) : FR 3 176 [.ref 180, .int (Int32.ofNat lim)] H (none, ov H [(180, mcl (Int32.ofNat 0) (Int32.ofNat 0) n lim (goV B n lim 0 nu0 sg0 wd0).1 (goV B n lim 0 nu0 sg0 wd0).2.1 (goV B n lim 0 nu0 sg0 wd0).2.2.1 (goV B n lim 0 nu0 sg0 wd0).2.2.2.1 (goV B n lim 0 nu0 sg0 wd0).2.2.2.2.1 (Int32.ofNat 0) pl0 (goV B n lim 0 nu0 sg0 wd0).2.2.2.2.2 td0 po)]) := by
  refine FR_ov (l := [(180, mcl p0 (Int32.ofNat n) sz0 lim0 a0 fr0 kd0 nu0 sg0 fa0 pl0 wd0 td0 po), (181, mtl ts)]) (l2 := [(180, mcl (Int32.ofNat 0) (Int32.ofNat 0) n lim (goV B n lim 0 nu0 sg0 wd0).1 (goV B n lim 0 nu0 sg0 wd0).2.1 (goV B n lim 0 nu0 sg0 wd0).2.2.1 (goV B n lim 0 nu0 sg0 wd0).2.2.2.1 (goV B n lim 0 nu0 sg0 wd0).2.2.2.2.1 (Int32.ofNat 0) pl0 (goV B n lim 0 nu0 sg0 wd0).2.2.2.2.2 td0 po), (181, mtl ts)]) (ov_id h1 (ov_c1 h2)) rfl (ov_2 h2) ?_
  refine RT_step (pc2 := 1) rfl (fun _ _ => rfl) ?_
  refine rt_ico rfl ki_0 ?_
  refine ow_pf rfl rfl rfl rfl rfl hlen rfl rfl ?_
  refine RT_step (pc2 := 6) rfl (fun _ _ => rfl) ?_
  refine RT_step (pc2 := 7) rfl (fun _ _ => rfl) ?_
  refine ow_iv1 rfl rfl rfl rfl hlen rfl rfl rfl ((m_take (p0 := Int32.ofNat 0) (n := n) (sz0 := sz0) (lim0 := lim0) (a0 := a0) (fr0 := fr0) (kd0 := kd0) (nu0 := nu0) (sg0 := sg0) (fa0 := fa0) (pl0 := pl0) (wd0 := wd0) (td0 := td0) (po := po) (ov_hl hlen) (ov_at rfl (ov_lt hlen (by decide)))).up (by decide)) rfl ?_
  refine ow_pf rfl rfl rfl rfl rfl hlen rfl rfl ?_
  refine RT_step (pc2 := 14) rfl (fun _ _ => rfl) ?_
  refine RT_step (pc2 := 15) rfl (fun _ _ => rfl) ?_
  refine ow_pf rfl rfl rfl rfl rfl hlen rfl rfl ?_
  refine RT_step (pc2 := 19) rfl (fun _ _ => rfl) ?_
  refine rt_ico rfl ki_0 ?_
  refine ow_pf rfl rfl rfl rfl rfl hlen rfl rfl ?_
  refine RT_step (pc2 := 24) rfl (fun _ _ => rfl) ?_
  refine rt_ico rfl ki_0 ?_
  refine ow_pf rfl rfl rfl rfl rfl hlen rfl rfl ?_
  refine RT_step (pc2 := 29) rfl (fun _ _ => rfl) ?_
  refine ow_iv0 rfl rfl rfl rfl hlen rfl rfl rfl ((m_go (p0 := Int32.ofNat 0) (p2 := Int32.ofNat 0) (sz := n) (lim := lim) (a := 0) (fr := fr0) (kd := kd0) (nu := nu0) (sg := sg0) (fa := Int32.ofNat 0) (pl := pl0) (wd := wd0) (td := td0) (po := po) hM (ov_hl hlen) (ov_at rfl (ov_lt hlen (by decide))) (ov_at rfl (ov_lt hlen (by decide))) (Nat.zero_le _) hn hl).up (by decide)) rfl ?_
  exact ow_ret rfl rfl rfl
theorem sw_other : ∀ w, w < 32 → w ≠ 2 → w ≠ 4 → w ≠ 6 → w ≠ 7 → w ≠ 8 → w ≠ 9 → w ≠ 10 → ∃ v : Int32, ev_rd ev_sw (Int32.ofNat w) = some v ∧ (v.toInt < 1 ∨ 7 < v.toInt) := by
  intro w hw h2 h4 h6 h7 h8 h9 h10
  have key : ∀ w, w < 32 → (w = 2 ∨ w = 4 ∨ w = 6 ∨ w = 7 ∨ w = 8 ∨ w = 9 ∨ w = 10) ∨ (ev_rd ev_sw (Int32.ofNat w) = some (ev_sw.getD w 0) ∧ ((ev_sw.getD w 0).toInt < 1 ∨ 7 < (ev_sw.getD w 0).toInt)) := by decide +kernel
  have k := (key w hw).resolve_left (by omega)
  exact ⟨_, k.1, k.2⟩
end
section
theorem k8_49 : (Int8.ofInt 49).toInt32 = Int32.ofNat 49 := by decide +kernel
/-! ===== LINE by LINE (cells from 3 on) ===== -/
theorem cl3_w {H : List AE} (hlen : Nat.ble 204 H.length = true) {bs : List Int32} {T : AE} {P : Nat} {Dn : Nat} {lw : Int32} {cl : Int32} {id : Int32} {gl : Nat} {bo : Nat} {pn : List Int64} {ri : List Int32} {lf : List Int32} {fo : List Int32} {dn : List Int64} {ha : List Int32} {pa : List Int32} {bl : List Int32} {dd : Nat} {q : ev_R} : ∀ (r i : Nat) (arr : List Int32) (L : List (Nat × Value)), i + r = 7 → arr.length = 7 → ev_g L 0 = some (.ref 3) → ev_g L 1 = some (.int (Int32.ofNat i)) → (∀ L2, ev_g L2 0 = some (.ref 3) → RT MM dd 61 56 L2 [] (ov H ((1, T) :: (2, bcl bs) :: [(3, dcl3 P Dn lw cl id gl bo), (4, lng pn), (5, ia ri), (6, ia lf), (7, ia (zl arr r i)), (8, ia fo), (9, lng dn), (10, ia ha), (11, ia pa), (12, ia bl)])) q) → RT MM dd 61 37 L [] (ov H ((1, T) :: (2, bcl bs) :: [(3, dcl3 P Dn lw cl id gl bo), (4, lng pn), (5, ia ri), (6, ia lf), (7, ia arr), (8, ia fo), (9, lng dn), (10, ia ha), (11, ia pa), (12, ia bl)])) q := by
  intro r
  induction r with
  | zero =>
    intro i arr L hi hl l0 l1 h
    have hi : i = 7 := by omega
    subst hi
    refine rt_ild rfl l1 ?_
    refine rt_bip rfl k8_7 ?_
    refine biT_ge rfl (n_le (Nat.le_refl _) (by decide)) ?_
    exact h L l0
  | succ r ih =>
    intro i arr L hi hl l0 l1 h
    refine rt_ild rfl l1 ?_
    refine rt_bip rfl k8_7 ?_
    refine biF_ge rfl (n_nle (by omega) (by decide)) ?_
    refine rt_ald rfl l0 ?_
    refine ow_gf rfl rfl rfl hlen rfl ?_
    refine rt_ild rfl l1 ?_
    refine rt_ico rfl ki_0 ?_
    refine ow_iasN (l2 := ((1, T) :: (2, bcl bs) :: [(3, dcl3 P Dn lw cl id gl bo), (4, lng pn), (5, ia ri), (6, ia lf), (7, ia (arr.set i (Int32.ofNat 0))), (8, ia fo), (9, lng dn), (10, ia ha), (11, ia pa), (12, ia bl)])) rfl rfl (by omega) (by omega) hlen rfl rfl ?_
    refine rt_inc rfl l1 (by decide +kernel) ?_
    rw [in_1]
    refine RT_step (pc2 := 37) rfl (fun _ _ => rfl) ?_
    exact ih (i + 1) _ _ (by omega) (by rw [List.length_set]; exact hl) (gs_o rfl l0 rfl) gs_n h
theorem cl3_f {H : List AE} (hlen : Nat.ble 204 H.length = true) {bs : List Int32} {T : AE} {P : Nat} {Dn : Nat} {lw : Int32} {cl : Int32} {id : Int32} {gl : Nat} {bo : Nat} {pn : List Int64} {ri : List Int32} {lf : List Int32} {wa : List Int32} {dn : List Int64} {ha : List Int32} {pa : List Int32} {bl : List Int32} {dd : Nat} {q : ev_R} : ∀ (r i : Nat) (arr : List Int32) (L : List (Nat × Value)), i + r = 49 → arr.length = 49 → ev_g L 0 = some (.ref 3) → ev_g L 1 = some (.int (Int32.ofNat i)) → (∀ L2, ev_g L2 0 = some (.ref 3) → RT MM dd 61 77 L2 [] (ov H ((1, T) :: (2, bcl bs) :: [(3, dcl3 P Dn lw cl id gl bo), (4, lng pn), (5, ia ri), (6, ia lf), (7, ia wa), (8, ia (zl arr r i)), (9, lng dn), (10, ia ha), (11, ia pa), (12, ia bl)])) q) → RT MM dd 61 58 L [] (ov H ((1, T) :: (2, bcl bs) :: [(3, dcl3 P Dn lw cl id gl bo), (4, lng pn), (5, ia ri), (6, ia lf), (7, ia wa), (8, ia arr), (9, lng dn), (10, ia ha), (11, ia pa), (12, ia bl)])) q := by
  intro r
  induction r with
  | zero =>
    intro i arr L hi hl l0 l1 h
    have hi : i = 49 := by omega
    subst hi
    refine rt_ild rfl l1 ?_
    refine rt_bip rfl k8_49 ?_
    refine biT_ge rfl (n_le (Nat.le_refl _) (by decide)) ?_
    exact h L l0
  | succ r ih =>
    intro i arr L hi hl l0 l1 h
    refine rt_ild rfl l1 ?_
    refine rt_bip rfl k8_49 ?_
    refine biF_ge rfl (n_nle (by omega) (by decide)) ?_
    refine rt_ald rfl l0 ?_
    refine ow_gf rfl rfl rfl hlen rfl ?_
    refine rt_ild rfl l1 ?_
    refine rt_ico rfl ki_0 ?_
    refine ow_iasN (l2 := ((1, T) :: (2, bcl bs) :: [(3, dcl3 P Dn lw cl id gl bo), (4, lng pn), (5, ia ri), (6, ia lf), (7, ia wa), (8, ia (arr.set i (Int32.ofNat 0))), (9, lng dn), (10, ia ha), (11, ia pa), (12, ia bl)])) rfl rfl (by omega) (by omega) hlen rfl rfl ?_
    refine rt_inc rfl l1 (by decide +kernel) ?_
    rw [in_1]
    refine RT_step (pc2 := 58) rfl (fun _ _ => rfl) ?_
    exact ih (i + 1) _ _ (by omega) (by rw [List.length_set]; exact hl) (gs_o rfl l0 rfl) gs_n h
theorem x_clear3 {H : List AE} (hlen : Nat.ble 204 H.length = true) {bs : List Int32} {T : AE} {P : Nat} {Dn : Nat} {lw : Int32} {cl : Int32} {id : Int32} {gl : Nat} {bo : Nat} {pn : List Int64} {ri : List Int32} {lf : List Int32} {wa : List Int32} {fo : List Int32} {dn : List Int64} {ha : List Int32} {pa : List Int32} {bl : List Int32} (l4 : wa.length = 7) (l5 : fo.length = 49) : FR 1 61 [.ref 3] (ov H ((1, T) :: (2, bcl bs) :: [(3, dcl3 P Dn lw cl id gl bo), (4, lng pn), (5, ia ri), (6, ia lf), (7, ia wa), (8, ia fo), (9, lng dn), (10, ia ha), (11, ia pa), (12, ia bl)])) (none, ov (ov H ((1, T) :: (2, bcl bs) :: [(3, dcl3 P Dn lw cl id gl bo), (4, lng pn), (5, ia ri), (6, ia lf), (7, ia wa), (8, ia fo), (9, lng dn), (10, ia ha), (11, ia pa), (12, ia bl)])) ((1, T) :: (2, bcl bs) :: [(3, dcl3 0 0 (Int32.ofNat 0) (Int32.ofNat 0) (Int32.ofNat 0) 0 0), (4, lng pn), (5, ia ri), (6, ia lf), (7, ia (zl wa 7 0)), (8, ia (zl fo 49 0)), (9, lng dn), (10, ia ha), (11, ia pa), (12, ia bl)])) := by
  refine FR_st rfl rfl ?_
  refine RT_step (pc2 := 1) rfl (fun _ _ => rfl) ?_
  refine rt_ico rfl ki_0 ?_
  refine ow_pf rfl rfl rfl rfl rfl hlen rfl rfl ?_
  refine RT_step (pc2 := 6) rfl (fun _ _ => rfl) ?_
  refine rt_ico rfl ki_0 ?_
  refine ow_pf rfl rfl rfl rfl rfl hlen rfl rfl ?_
  refine RT_step (pc2 := 11) rfl (fun _ _ => rfl) ?_
  refine rt_ico rfl ki_0 ?_
  refine ow_pf rfl rfl rfl rfl rfl hlen rfl rfl ?_
  refine RT_step (pc2 := 16) rfl (fun _ _ => rfl) ?_
  refine rt_ico rfl ki_0 ?_
  refine ow_pf rfl rfl rfl rfl rfl hlen rfl rfl ?_
  refine RT_step (pc2 := 21) rfl (fun _ _ => rfl) ?_
  refine rt_ico rfl ki_0 ?_
  refine ow_pf rfl rfl rfl rfl rfl hlen rfl rfl ?_
  refine RT_step (pc2 := 26) rfl (fun _ _ => rfl) ?_
  refine rt_ico rfl ki_0 ?_
  refine ow_pf rfl rfl rfl rfl rfl hlen rfl rfl ?_
  refine RT_step (pc2 := 31) rfl (fun _ _ => rfl) ?_
  refine rt_ico rfl ki_0 ?_
  refine ow_pf rfl rfl rfl rfl rfl hlen rfl rfl ?_
  refine rt_ico rfl ki_0 ?_
  refine RT_step (pc2 := 37) rfl (fun _ _ => rfl) ?_
  refine cl3_w (P := 0) (Dn := 0) (lw := Int32.ofNat 0) (cl := Int32.ofNat 0) (id := Int32.ofNat 0) (gl := 0) (bo := 0) hlen 7 0 wa _ rfl l4 rfl rfl (fun L2 l0 => ?_)
  refine rt_ico rfl ki_0 ?_
  refine rt_ist rfl (by decide +kernel) ?_
  refine cl3_f hlen 49 0 fo _ rfl l5 (gs_o rfl l0 rfl) gs_n (fun L3 l3 => ?_)
  exact ow_ret rfl rfl rfl
theorem x_fill3 {bs : List Int32} {T : AE} {P : Nat} {Dn : Nat} {lw : Int32} {cl : Int32} {id : Int32} {gl : Nat} {bo : Nat} {pn : List Int64} {ri : List Int32} {lf : List Int32} {wa : List Int32} {fo : List Int32} {dn : List Int64} {ha : List Int32} {pa : List Int32} {bl : List Int32} {rd on : List Int32} (o1 : OC lw 10 rd[2]? on[0]?) (o2 : OC cl 3 rd[3]? on[1]?) (o3 : OC id 5 rd[4]? on[2]?) : ∃ v1 v2 v3 : Int32, rd[2]? = some v1 ∧ rd[3]? = some v2 ∧ rd[4]? = some v3 ∧ ∀ H : List AE, Nat.ble 204 H.length = true → FR 1 65 [.ref 3] (ov H ((1, T) :: (2, bcl bs) :: [(3, dcl3 P Dn lw cl id gl bo), (4, lng pn), (5, ia ri), (6, ia lf), (7, ia wa), (8, ia fo), (9, lng dn), (10, ia ha), (11, ia pa), (12, ia bl)])) (none, ov (ov H ((1, T) :: (2, bcl bs) :: [(3, dcl3 P Dn lw cl id gl bo), (4, lng pn), (5, ia ri), (6, ia lf), (7, ia wa), (8, ia fo), (9, lng dn), (10, ia ha), (11, ia pa), (12, ia bl)])) ((1, T) :: (2, bcl bs) :: [(3, dcl3 P Dn v1 v2 v3 gl bo), (4, lng pn), (5, ia ri), (6, ia lf), (7, ia wa), (8, ia fo), (9, lng dn), (10, ia ha), (11, ia pa), (12, ia bl)])) := by
  rcases o1 with ⟨e1, f1, -⟩ | ⟨u1, y1, z1, e1, f1, -⟩ <;> rcases o2 with ⟨e2, f2, -⟩ | ⟨u2, y2, z2, e2, f2, -⟩ <;> rcases o3 with ⟨e3, f3, -⟩ | ⟨u3, y3, z3, e3, f3, -⟩ <;> subst e1 e2 e3 <;> refine ⟨_, _, _, f1, f2, f3, fun H hlen => ?_⟩ <;> refine FR_st rfl rfl ?_
  · refine RT_step (pc2 := 1) rfl (fun _ _ => rfl) ?_
    refine RT_step (pc2 := 2) rfl (fun _ _ => rfl) ?_
    refine ow_gf rfl rfl rfl hlen rfl ?_
    refine bcT_ne rfl rfl ?_
    refine rt_bip rfl k8_10 ?_
    refine RT_step (pc2 := 17) rfl (fun _ _ => rfl) ?_
    refine ow_pf rfl rfl rfl rfl rfl hlen rfl rfl ?_
    refine RT_step (pc2 := 21) rfl (fun _ _ => rfl) ?_
    refine RT_step (pc2 := 22) rfl (fun _ _ => rfl) ?_
    refine ow_gf rfl rfl rfl hlen rfl ?_
    refine bcT_ne rfl rfl ?_
    refine rt_ico rfl ki_3 ?_
    refine RT_step (pc2 := 36) rfl (fun _ _ => rfl) ?_
    refine ow_pf rfl rfl rfl rfl rfl hlen rfl rfl ?_
    refine RT_step (pc2 := 40) rfl (fun _ _ => rfl) ?_
    refine RT_step (pc2 := 41) rfl (fun _ _ => rfl) ?_
    refine ow_gf rfl rfl rfl hlen rfl ?_
    refine bcT_ne rfl rfl ?_
    refine rt_ico rfl ki_5 ?_
    refine RT_step (pc2 := 55) rfl (fun _ _ => rfl) ?_
    refine ow_pf rfl rfl rfl rfl rfl hlen rfl rfl ?_
    exact ow_ret rfl rfl rfl
  · refine RT_step (pc2 := 1) rfl (fun _ _ => rfl) ?_
    refine RT_step (pc2 := 2) rfl (fun _ _ => rfl) ?_
    refine ow_gf rfl rfl rfl hlen rfl ?_
    refine bcT_ne rfl rfl ?_
    refine rt_bip rfl k8_10 ?_
    refine RT_step (pc2 := 17) rfl (fun _ _ => rfl) ?_
    refine ow_pf rfl rfl rfl rfl rfl hlen rfl rfl ?_
    refine RT_step (pc2 := 21) rfl (fun _ _ => rfl) ?_
    refine RT_step (pc2 := 22) rfl (fun _ _ => rfl) ?_
    refine ow_gf rfl rfl rfl hlen rfl ?_
    refine bcT_ne rfl rfl ?_
    refine rt_ico rfl ki_3 ?_
    refine RT_step (pc2 := 36) rfl (fun _ _ => rfl) ?_
    refine ow_pf rfl rfl rfl rfl rfl hlen rfl rfl ?_
    refine RT_step (pc2 := 40) rfl (fun _ _ => rfl) ?_
    refine RT_step (pc2 := 41) rfl (fun _ _ => rfl) ?_
    refine ow_gf rfl rfl rfl hlen rfl ?_
    refine bcF_ne rfl (n_z y3 (by omega)) ?_
    refine RT_step (pc2 := 52) rfl (fun _ _ => rfl) ?_
    refine ow_gf rfl rfl rfl hlen rfl ?_
    refine ow_pf rfl rfl rfl rfl rfl hlen rfl rfl ?_
    exact ow_ret rfl rfl rfl
  · refine RT_step (pc2 := 1) rfl (fun _ _ => rfl) ?_
    refine RT_step (pc2 := 2) rfl (fun _ _ => rfl) ?_
    refine ow_gf rfl rfl rfl hlen rfl ?_
    refine bcT_ne rfl rfl ?_
    refine rt_bip rfl k8_10 ?_
    refine RT_step (pc2 := 17) rfl (fun _ _ => rfl) ?_
    refine ow_pf rfl rfl rfl rfl rfl hlen rfl rfl ?_
    refine RT_step (pc2 := 21) rfl (fun _ _ => rfl) ?_
    refine RT_step (pc2 := 22) rfl (fun _ _ => rfl) ?_
    refine ow_gf rfl rfl rfl hlen rfl ?_
    refine bcF_ne rfl (n_z y2 (by omega)) ?_
    refine RT_step (pc2 := 33) rfl (fun _ _ => rfl) ?_
    refine ow_gf rfl rfl rfl hlen rfl ?_
    refine ow_pf rfl rfl rfl rfl rfl hlen rfl rfl ?_
    refine RT_step (pc2 := 40) rfl (fun _ _ => rfl) ?_
    refine RT_step (pc2 := 41) rfl (fun _ _ => rfl) ?_
    refine ow_gf rfl rfl rfl hlen rfl ?_
    refine bcT_ne rfl rfl ?_
    refine rt_ico rfl ki_5 ?_
    refine RT_step (pc2 := 55) rfl (fun _ _ => rfl) ?_
    refine ow_pf rfl rfl rfl rfl rfl hlen rfl rfl ?_
    exact ow_ret rfl rfl rfl
  · refine RT_step (pc2 := 1) rfl (fun _ _ => rfl) ?_
    refine RT_step (pc2 := 2) rfl (fun _ _ => rfl) ?_
    refine ow_gf rfl rfl rfl hlen rfl ?_
    refine bcT_ne rfl rfl ?_
    refine rt_bip rfl k8_10 ?_
    refine RT_step (pc2 := 17) rfl (fun _ _ => rfl) ?_
    refine ow_pf rfl rfl rfl rfl rfl hlen rfl rfl ?_
    refine RT_step (pc2 := 21) rfl (fun _ _ => rfl) ?_
    refine RT_step (pc2 := 22) rfl (fun _ _ => rfl) ?_
    refine ow_gf rfl rfl rfl hlen rfl ?_
    refine bcF_ne rfl (n_z y2 (by omega)) ?_
    refine RT_step (pc2 := 33) rfl (fun _ _ => rfl) ?_
    refine ow_gf rfl rfl rfl hlen rfl ?_
    refine ow_pf rfl rfl rfl rfl rfl hlen rfl rfl ?_
    refine RT_step (pc2 := 40) rfl (fun _ _ => rfl) ?_
    refine RT_step (pc2 := 41) rfl (fun _ _ => rfl) ?_
    refine ow_gf rfl rfl rfl hlen rfl ?_
    refine bcF_ne rfl (n_z y3 (by omega)) ?_
    refine RT_step (pc2 := 52) rfl (fun _ _ => rfl) ?_
    refine ow_gf rfl rfl rfl hlen rfl ?_
    refine ow_pf rfl rfl rfl rfl rfl hlen rfl rfl ?_
    exact ow_ret rfl rfl rfl
  · refine RT_step (pc2 := 1) rfl (fun _ _ => rfl) ?_
    refine RT_step (pc2 := 2) rfl (fun _ _ => rfl) ?_
    refine ow_gf rfl rfl rfl hlen rfl ?_
    refine bcF_ne rfl (n_z y1 (by omega)) ?_
    refine RT_step (pc2 := 14) rfl (fun _ _ => rfl) ?_
    refine ow_gf rfl rfl rfl hlen rfl ?_
    refine ow_pf rfl rfl rfl rfl rfl hlen rfl rfl ?_
    refine RT_step (pc2 := 21) rfl (fun _ _ => rfl) ?_
    refine RT_step (pc2 := 22) rfl (fun _ _ => rfl) ?_
    refine ow_gf rfl rfl rfl hlen rfl ?_
    refine bcT_ne rfl rfl ?_
    refine rt_ico rfl ki_3 ?_
    refine RT_step (pc2 := 36) rfl (fun _ _ => rfl) ?_
    refine ow_pf rfl rfl rfl rfl rfl hlen rfl rfl ?_
    refine RT_step (pc2 := 40) rfl (fun _ _ => rfl) ?_
    refine RT_step (pc2 := 41) rfl (fun _ _ => rfl) ?_
    refine ow_gf rfl rfl rfl hlen rfl ?_
    refine bcT_ne rfl rfl ?_
    refine rt_ico rfl ki_5 ?_
    refine RT_step (pc2 := 55) rfl (fun _ _ => rfl) ?_
    refine ow_pf rfl rfl rfl rfl rfl hlen rfl rfl ?_
    exact ow_ret rfl rfl rfl
  · refine RT_step (pc2 := 1) rfl (fun _ _ => rfl) ?_
    refine RT_step (pc2 := 2) rfl (fun _ _ => rfl) ?_
    refine ow_gf rfl rfl rfl hlen rfl ?_
    refine bcF_ne rfl (n_z y1 (by omega)) ?_
    refine RT_step (pc2 := 14) rfl (fun _ _ => rfl) ?_
    refine ow_gf rfl rfl rfl hlen rfl ?_
    refine ow_pf rfl rfl rfl rfl rfl hlen rfl rfl ?_
    refine RT_step (pc2 := 21) rfl (fun _ _ => rfl) ?_
    refine RT_step (pc2 := 22) rfl (fun _ _ => rfl) ?_
    refine ow_gf rfl rfl rfl hlen rfl ?_
    refine bcT_ne rfl rfl ?_
    refine rt_ico rfl ki_3 ?_
    refine RT_step (pc2 := 36) rfl (fun _ _ => rfl) ?_
    refine ow_pf rfl rfl rfl rfl rfl hlen rfl rfl ?_
    refine RT_step (pc2 := 40) rfl (fun _ _ => rfl) ?_
    refine RT_step (pc2 := 41) rfl (fun _ _ => rfl) ?_
    refine ow_gf rfl rfl rfl hlen rfl ?_
    refine bcF_ne rfl (n_z y3 (by omega)) ?_
    refine RT_step (pc2 := 52) rfl (fun _ _ => rfl) ?_
    refine ow_gf rfl rfl rfl hlen rfl ?_
    refine ow_pf rfl rfl rfl rfl rfl hlen rfl rfl ?_
    exact ow_ret rfl rfl rfl
  · refine RT_step (pc2 := 1) rfl (fun _ _ => rfl) ?_
    refine RT_step (pc2 := 2) rfl (fun _ _ => rfl) ?_
    refine ow_gf rfl rfl rfl hlen rfl ?_
    refine bcF_ne rfl (n_z y1 (by omega)) ?_
    refine RT_step (pc2 := 14) rfl (fun _ _ => rfl) ?_
    refine ow_gf rfl rfl rfl hlen rfl ?_
    refine ow_pf rfl rfl rfl rfl rfl hlen rfl rfl ?_
    refine RT_step (pc2 := 21) rfl (fun _ _ => rfl) ?_
    refine RT_step (pc2 := 22) rfl (fun _ _ => rfl) ?_
    refine ow_gf rfl rfl rfl hlen rfl ?_
    refine bcF_ne rfl (n_z y2 (by omega)) ?_
    refine RT_step (pc2 := 33) rfl (fun _ _ => rfl) ?_
    refine ow_gf rfl rfl rfl hlen rfl ?_
    refine ow_pf rfl rfl rfl rfl rfl hlen rfl rfl ?_
    refine RT_step (pc2 := 40) rfl (fun _ _ => rfl) ?_
    refine RT_step (pc2 := 41) rfl (fun _ _ => rfl) ?_
    refine ow_gf rfl rfl rfl hlen rfl ?_
    refine bcT_ne rfl rfl ?_
    refine rt_ico rfl ki_5 ?_
    refine RT_step (pc2 := 55) rfl (fun _ _ => rfl) ?_
    refine ow_pf rfl rfl rfl rfl rfl hlen rfl rfl ?_
    exact ow_ret rfl rfl rfl
  · refine RT_step (pc2 := 1) rfl (fun _ _ => rfl) ?_
    refine RT_step (pc2 := 2) rfl (fun _ _ => rfl) ?_
    refine ow_gf rfl rfl rfl hlen rfl ?_
    refine bcF_ne rfl (n_z y1 (by omega)) ?_
    refine RT_step (pc2 := 14) rfl (fun _ _ => rfl) ?_
    refine ow_gf rfl rfl rfl hlen rfl ?_
    refine ow_pf rfl rfl rfl rfl rfl hlen rfl rfl ?_
    refine RT_step (pc2 := 21) rfl (fun _ _ => rfl) ?_
    refine RT_step (pc2 := 22) rfl (fun _ _ => rfl) ?_
    refine ow_gf rfl rfl rfl hlen rfl ?_
    refine bcF_ne rfl (n_z y2 (by omega)) ?_
    refine RT_step (pc2 := 33) rfl (fun _ _ => rfl) ?_
    refine ow_gf rfl rfl rfl hlen rfl ?_
    refine ow_pf rfl rfl rfl rfl rfl hlen rfl rfl ?_
    refine RT_step (pc2 := 40) rfl (fun _ _ => rfl) ?_
    refine RT_step (pc2 := 41) rfl (fun _ _ => rfl) ?_
    refine ow_gf rfl rfl rfl hlen rfl ?_
    refine bcF_ne rfl (n_z y3 (by omega)) ?_
    refine RT_step (pc2 := 52) rfl (fun _ _ => rfl) ?_
    refine ow_gf rfl rfl rfl hlen rfl ?_
    refine ow_pf rfl rfl rfl rfl rfl hlen rfl rfl ?_
    exact ow_ret rfl rfl rfl
theorem ln3 {B : Nat → Nat} {bs ts : List Int32} {n lim : Nat} {pr : List Value} {k a kd pl w : Nat} {le : Int64} {nu tk td fp nm sg qm : Int32} {wd : Int64} {P : Nat} {Dn : Nat} {lw : Int32} {cl : Int32} {id : Int32} {gl : Nat} {bo : Nat} {pn : List Int64} {ri : List Int32} {lf : List Int32} {wa : List Int32} {fo : List Int32} {dn : List Int64} {ha : List Int32} {pa : List Int32} {bl : List Int32} {rd : List Int32} {rn : List Int64} {on : List Int32} {zz : Int32} (hB : BY bs B) (hM : MY ts B) (hb : ∀ i, B i < 256) (hn : n ≤ 940) (hl : lim ≤ 940) (t : TF k n a kd w le nu nm sg wd) (h4 : kd ≠ 4) (d : DR P Dn lw cl id gl bo pn ri lf wa fo dn ha pa bl rd rn on) : (∃ T M D R, FC n lim (pof pr) T M ∧ SH3 D ∧ SHR R ∧ (∀ (H : List AE) (L : List (Nat × Value)) (q : ev_R), Nat.ble 204 H.length = true → ev_g L 0 = some (.ref 3) → ev_g L 1 = some (.ref 1) → ev_g L 2 = some (.int zz) → (∀ L2, ev_g L2 0 = some (.ref 3) → ev_g L2 1 = some (.ref 1) → ev_g L2 2 = some (.int zz) → ev_g L2 3 = some (.int (Int32.ofNat 0)) → RT MM 7 76 139 L2 [] (ov H ((1, T) :: (2, bcl bs) :: D)) q) → RT MM 7 76 34 L [] (ov H ((1, tcl n lim a kd pl w le nu tk (Int32.ofNat 0) fp) :: (2, bcl bs) :: [(3, dcl3 P Dn lw cl id gl bo), (4, lng pn), (5, ia ri), (6, ia lf), (7, ia wa), (8, ia fo), (9, lng dn), (10, ia ha), (11, ia pa), (12, ia bl)])) q) ∧ ∀ H : List AE, Nat.ble 204 H.length = true → FR 7 256 [.ref 180] (ov H ((180, mcl (Int32.ofNat 0) (Int32.ofNat 0) n lim a pl (km kd) nm sg (Int32.ofNat 0) qm wd td (pof pr)) :: (181, mtl ts) :: [(183, ia rd), (188, lng rn), (191, zb on)])) (some (.int (Int32.ofNat 0)), ov (ov H ((180, mcl (Int32.ofNat 0) (Int32.ofNat 0) n lim a pl (km kd) nm sg (Int32.ofNat 0) qm wd td (pof pr)) :: (181, mtl ts) :: [(183, ia rd), (188, lng rn), (191, zb on)])) ((180, M) :: (181, mtl ts) :: R))) ∨ (∃ tk2 td2 T M D R, TC n lim (pof pr) (k + 1) tk2 td2 T M ∧ SD3 D R ∧ (∀ (H : List AE) (L : List (Nat × Value)) (q : ev_R), Nat.ble 204 H.length = true → ev_g L 0 = some (.ref 3) → ev_g L 1 = some (.ref 1) → ev_g L 2 = some (.int zz) → (∀ L2, ev_g L2 0 = some (.ref 3) → ev_g L2 1 = some (.ref 1) → ev_g L2 2 = some (.int zz) → ev_g L2 3 = some (.int (Int32.ofNat 1)) → RT MM 7 76 139 L2 [] (ov H ((1, T) :: (2, bcl bs) :: D)) q) → RT MM 7 76 34 L [] (ov H ((1, tcl n lim a kd pl w le nu tk (Int32.ofNat 0) fp) :: (2, bcl bs) :: [(3, dcl3 P Dn lw cl id gl bo), (4, lng pn), (5, ia ri), (6, ia lf), (7, ia wa), (8, ia fo), (9, lng dn), (10, ia ha), (11, ia pa), (12, ia bl)])) q) ∧ ∀ H : List AE, Nat.ble 204 H.length = true → FR 7 256 [.ref 180] (ov H ((180, mcl (Int32.ofNat 0) (Int32.ofNat 0) n lim a pl (km kd) nm sg (Int32.ofNat 0) qm wd td (pof pr)) :: (181, mtl ts) :: [(183, ia rd), (188, lng rn), (191, zb on)])) (some (.int (Int32.ofNat 1)), ov (ov H ((180, mcl (Int32.ofNat 0) (Int32.ofNat 0) n lim a pl (km kd) nm sg (Int32.ofNat 0) qm wd td (pof pr)) :: (181, mtl ts) :: [(183, ia rd), (188, lng rn), (191, zb on)])) ((180, M) :: (181, mtl ts) :: R))) := by
  have hw := t.2.2.2.2.1
  have hk := (km_is kd t.2.2.2.1).2.2.2.2.2
  have i0 : isW (km kd) wd 0 = decide (w = 2) := w_is t (by decide)
  have i1 : isW (km kd) wd 1 = decide (w = 4) := w_is t (by decide)
  have i3 : isW (km kd) wd 3 = decide (w = 6) := w_is t (by decide)
  have i4 : isW (km kd) wd 4 = decide (w = 7) := w_is t (by decide)
  have i5 : isW (km kd) wd 5 = decide (w = 8) := w_is t (by decide)
  have i6 : isW (km kd) wd 6 = decide (w = 9) := w_is t (by decide)
  have i7 : isW (km kd) wd 7 = decide (w = 10) := w_is t (by decide)
  by_cases cw : w = 2
  · rcases pe3 hB hM hb hn hl (pr := pr) (pl := pl) (tk := tk) (td := td) (fp := fp) (qm := qm) t (w_k1 t (by omega)) d with ⟨T, M, D, R, f, g1, g2, h⟩ | ⟨tk2, td2, T, M, D, R, c, g, h⟩
    · obtain ⟨y0, y1, y2, y3, y4, y5, y6, y7, y8, y9, y10, y11, y12, y13, y14, y15, rfl⟩ := g1
      obtain ⟨y16, y17, y18, rfl⟩ := g2
      refine Or.inl ⟨T, M, [(3, dcl3 y0 y1 y2 y3 y4 y5 y6), (4, lng y7), (5, ia y8), (6, ia y9), (7, ia y10), (8, ia y11), (9, lng y12), (10, ia y13), (11, ia y14), (12, ia y15)], [(183, ia y16), (188, lng y17), (191, zb y18)], f, ⟨_, _, _, _, _, _, _, _, _, _, _, _, _, _, _, _, rfl⟩, ⟨_, _, _, rfl⟩, fun H L q hlen l0 l1 l2 hq => ?_, fun H hlen => ?_⟩
      · refine RT_step (pc2 := 37) rfl (fun _ _ => rfl) ?_
        refine rt_ald rfl l1 ?_
        refine ow_gf rfl rfl rfl hlen rfl ?_
        refine rt_ord rfl hw rfl ?_
        refine rt_isw rfl (v := 1) (by rw [cw]; decide +kernel) ?_
        refine RT_step (pc2 := 88) rfl (fun _ _ => rfl) ?_
        refine rt_ald rfl l0 ?_
        refine rt_ald rfl l1 ?_
        refine ow_iv1 (l2 := ((1, T) :: (2, bcl bs) :: [(3, dcl3 y0 y1 y2 y3 y4 y5 y6), (4, lng y7), (5, ia y8), (6, ia y9), (7, ia y10), (8, ia y11), (9, lng y12), (10, ia y13), (11, ia y14), (12, ia y15)])) rfl rfl rfl rfl hlen rfl rfl rfl ((h.1 H hlen).up (by decide)) rfl ?_
        refine rt_ist rfl (by decide +kernel) ?_
        refine RT_step (pc2 := 139) rfl (fun _ _ => rfl) ?_
        exact hq _ (gs_o rfl l0 rfl) (gs_o rfl l1 rfl) (gs_o rfl l2 rfl) gs_n
      · refine FR_st rfl rfl ?_
        refine RT_step (pc2 := 1) rfl (fun _ _ => rfl) ?_
        refine rt_ico rfl ki_0 ?_
        refine ow_iv1 rfl rfl rfl rfl hlen rfl rfl rfl ((m_isWord (ov_hl hlen) (ov_at rfl (ov_lt hlen (by decide))) hk (by decide)).up (by decide)) rfl ?_
        refine bcF_eq rfl (b01_t (i0.trans (decide_eq_true cw))) ?_
        refine RT_step (pc2 := 9) rfl (fun _ _ => rfl) ?_
        refine ow_iv1 (l2 := ((180, M) :: (181, mtl ts) :: [(183, ia y16), (188, lng y17), (191, zb y18)])) rfl rfl rfl rfl hlen rfl rfl rfl ((h.2 H hlen).up (by decide)) rfl ?_
        exact ow_irt rfl rfl rfl
    · have gg := g
      obtain ⟨y0, y1, y2, y3, y4, y5, y6, y7, y8, y9, y10, y11, y12, y13, y14, y15, y16, y17, y18, rfl, rfl, -⟩ := g
      refine Or.inr ⟨tk2, td2, T, M, _, _, c, gg, fun H L q hlen l0 l1 l2 hq => ?_, fun H hlen => ?_⟩
      · refine RT_step (pc2 := 37) rfl (fun _ _ => rfl) ?_
        refine rt_ald rfl l1 ?_
        refine ow_gf rfl rfl rfl hlen rfl ?_
        refine rt_ord rfl hw rfl ?_
        refine rt_isw rfl (v := 1) (by rw [cw]; decide +kernel) ?_
        refine RT_step (pc2 := 88) rfl (fun _ _ => rfl) ?_
        refine rt_ald rfl l0 ?_
        refine rt_ald rfl l1 ?_
        refine ow_iv1 (l2 := ((1, T) :: (2, bcl bs) :: [(3, dcl3 y0 y1 y2 y3 y4 y5 y6), (4, lng y7), (5, ia y8), (6, ia y9), (7, ia y10), (8, ia y11), (9, lng y12), (10, ia y13), (11, ia y14), (12, ia y15)])) rfl rfl rfl rfl hlen rfl rfl rfl ((h.1 H hlen).up (by decide)) rfl ?_
        refine rt_ist rfl (by decide +kernel) ?_
        refine RT_step (pc2 := 139) rfl (fun _ _ => rfl) ?_
        exact hq _ (gs_o rfl l0 rfl) (gs_o rfl l1 rfl) (gs_o rfl l2 rfl) gs_n
      · refine FR_st rfl rfl ?_
        refine RT_step (pc2 := 1) rfl (fun _ _ => rfl) ?_
        refine rt_ico rfl ki_0 ?_
        refine ow_iv1 rfl rfl rfl rfl hlen rfl rfl rfl ((m_isWord (ov_hl hlen) (ov_at rfl (ov_lt hlen (by decide))) hk (by decide)).up (by decide)) rfl ?_
        refine bcF_eq rfl (b01_t (i0.trans (decide_eq_true cw))) ?_
        refine RT_step (pc2 := 9) rfl (fun _ _ => rfl) ?_
        refine ow_iv1 (l2 := ((180, M) :: (181, mtl ts) :: [(183, ia y16), (188, lng y17), (191, zb y18)])) rfl rfl rfl rfl hlen rfl rfl rfl ((h.2 H hlen).up (by decide)) rfl ?_
        exact ow_irt rfl rfl rfl
  · by_cases cw : w = 4
    · rcases de3 hB hM hb hn hl (pr := pr) (pl := pl) (tk := tk) (td := td) (fp := fp) (qm := qm) t (w_k1 t (by omega)) d with ⟨T, M, D, R, f, g1, g2, h⟩ | ⟨tk2, td2, T, M, D, R, c, g, h⟩
      · obtain ⟨y0, y1, y2, y3, y4, y5, y6, y7, y8, y9, y10, y11, y12, y13, y14, y15, rfl⟩ := g1
        obtain ⟨y16, y17, y18, rfl⟩ := g2
        refine Or.inl ⟨T, M, [(3, dcl3 y0 y1 y2 y3 y4 y5 y6), (4, lng y7), (5, ia y8), (6, ia y9), (7, ia y10), (8, ia y11), (9, lng y12), (10, ia y13), (11, ia y14), (12, ia y15)], [(183, ia y16), (188, lng y17), (191, zb y18)], f, ⟨_, _, _, _, _, _, _, _, _, _, _, _, _, _, _, _, rfl⟩, ⟨_, _, _, rfl⟩, fun H L q hlen l0 l1 l2 hq => ?_, fun H hlen => ?_⟩
        · refine RT_step (pc2 := 37) rfl (fun _ _ => rfl) ?_
          refine rt_ald rfl l1 ?_
          refine ow_gf rfl rfl rfl hlen rfl ?_
          refine rt_ord rfl hw rfl ?_
          refine rt_isw rfl (v := 2) (by rw [cw]; decide +kernel) ?_
          refine RT_step (pc2 := 97) rfl (fun _ _ => rfl) ?_
          refine rt_ald rfl l0 ?_
          refine rt_ald rfl l1 ?_
          refine ow_iv1 (l2 := ((1, T) :: (2, bcl bs) :: [(3, dcl3 y0 y1 y2 y3 y4 y5 y6), (4, lng y7), (5, ia y8), (6, ia y9), (7, ia y10), (8, ia y11), (9, lng y12), (10, ia y13), (11, ia y14), (12, ia y15)])) rfl rfl rfl rfl hlen rfl rfl rfl ((h.1 H hlen).up (by decide)) rfl ?_
          refine rt_ist rfl (by decide +kernel) ?_
          refine RT_step (pc2 := 139) rfl (fun _ _ => rfl) ?_
          exact hq _ (gs_o rfl l0 rfl) (gs_o rfl l1 rfl) (gs_o rfl l2 rfl) gs_n
        · refine FR_st rfl rfl ?_
          refine RT_step (pc2 := 1) rfl (fun _ _ => rfl) ?_
          refine rt_ico rfl ki_0 ?_
          refine ow_iv1 rfl rfl rfl rfl hlen rfl rfl rfl ((m_isWord (ov_hl hlen) (ov_at rfl (ov_lt hlen (by decide))) hk (by decide)).up (by decide)) rfl ?_
          refine bcT_eq rfl (b01_f (i0.trans (decide_eq_false (by omega)))) ?_
          refine RT_step (pc2 := 14) rfl (fun _ _ => rfl) ?_
          refine rt_ico rfl ki_1 ?_
          refine ow_iv1 rfl rfl rfl rfl hlen rfl rfl rfl ((m_isWord (ov_hl hlen) (ov_at rfl (ov_lt hlen (by decide))) hk (by decide)).up (by decide)) rfl ?_
          refine bcF_eq rfl (b01_t (i1.trans (decide_eq_true cw))) ?_
          refine RT_step (pc2 := 22) rfl (fun _ _ => rfl) ?_
          refine ow_iv1 (l2 := ((180, M) :: (181, mtl ts) :: [(183, ia y16), (188, lng y17), (191, zb y18)])) rfl rfl rfl rfl hlen rfl rfl rfl ((h.2 H hlen).up (by decide)) rfl ?_
          exact ow_irt rfl rfl rfl
      · have gg := g
        obtain ⟨y0, y1, y2, y3, y4, y5, y6, y7, y8, y9, y10, y11, y12, y13, y14, y15, y16, y17, y18, rfl, rfl, -⟩ := g
        refine Or.inr ⟨tk2, td2, T, M, _, _, c, gg, fun H L q hlen l0 l1 l2 hq => ?_, fun H hlen => ?_⟩
        · refine RT_step (pc2 := 37) rfl (fun _ _ => rfl) ?_
          refine rt_ald rfl l1 ?_
          refine ow_gf rfl rfl rfl hlen rfl ?_
          refine rt_ord rfl hw rfl ?_
          refine rt_isw rfl (v := 2) (by rw [cw]; decide +kernel) ?_
          refine RT_step (pc2 := 97) rfl (fun _ _ => rfl) ?_
          refine rt_ald rfl l0 ?_
          refine rt_ald rfl l1 ?_
          refine ow_iv1 (l2 := ((1, T) :: (2, bcl bs) :: [(3, dcl3 y0 y1 y2 y3 y4 y5 y6), (4, lng y7), (5, ia y8), (6, ia y9), (7, ia y10), (8, ia y11), (9, lng y12), (10, ia y13), (11, ia y14), (12, ia y15)])) rfl rfl rfl rfl hlen rfl rfl rfl ((h.1 H hlen).up (by decide)) rfl ?_
          refine rt_ist rfl (by decide +kernel) ?_
          refine RT_step (pc2 := 139) rfl (fun _ _ => rfl) ?_
          exact hq _ (gs_o rfl l0 rfl) (gs_o rfl l1 rfl) (gs_o rfl l2 rfl) gs_n
        · refine FR_st rfl rfl ?_
          refine RT_step (pc2 := 1) rfl (fun _ _ => rfl) ?_
          refine rt_ico rfl ki_0 ?_
          refine ow_iv1 rfl rfl rfl rfl hlen rfl rfl rfl ((m_isWord (ov_hl hlen) (ov_at rfl (ov_lt hlen (by decide))) hk (by decide)).up (by decide)) rfl ?_
          refine bcT_eq rfl (b01_f (i0.trans (decide_eq_false (by omega)))) ?_
          refine RT_step (pc2 := 14) rfl (fun _ _ => rfl) ?_
          refine rt_ico rfl ki_1 ?_
          refine ow_iv1 rfl rfl rfl rfl hlen rfl rfl rfl ((m_isWord (ov_hl hlen) (ov_at rfl (ov_lt hlen (by decide))) hk (by decide)).up (by decide)) rfl ?_
          refine bcF_eq rfl (b01_t (i1.trans (decide_eq_true cw))) ?_
          refine RT_step (pc2 := 22) rfl (fun _ _ => rfl) ?_
          refine ow_iv1 (l2 := ((180, M) :: (181, mtl ts) :: [(183, ia y16), (188, lng y17), (191, zb y18)])) rfl rfl rfl rfl hlen rfl rfl rfl ((h.2 H hlen).up (by decide)) rfl ?_
          exact ow_irt rfl rfl rfl
    · by_cases cw : w = 6
      · rcases se3 hB hM hb hn hl (pr := pr) (pl := pl) (tk := tk) (td := td) (fp := fp) (qm := qm) t (w_k1 t (by omega)) d with ⟨T, M, D, R, f, g1, g2, h⟩ | ⟨tk2, td2, T, M, D, R, c, g, h⟩
        · obtain ⟨y0, y1, y2, y3, y4, y5, y6, y7, y8, y9, y10, y11, y12, y13, y14, y15, rfl⟩ := g1
          obtain ⟨y16, y17, y18, rfl⟩ := g2
          refine Or.inl ⟨T, M, [(3, dcl3 y0 y1 y2 y3 y4 y5 y6), (4, lng y7), (5, ia y8), (6, ia y9), (7, ia y10), (8, ia y11), (9, lng y12), (10, ia y13), (11, ia y14), (12, ia y15)], [(183, ia y16), (188, lng y17), (191, zb y18)], f, ⟨_, _, _, _, _, _, _, _, _, _, _, _, _, _, _, _, rfl⟩, ⟨_, _, _, rfl⟩, fun H L q hlen l0 l1 l2 hq => ?_, fun H hlen => ?_⟩
          · refine RT_step (pc2 := 37) rfl (fun _ _ => rfl) ?_
            refine rt_ald rfl l1 ?_
            refine ow_gf rfl rfl rfl hlen rfl ?_
            refine rt_ord rfl hw rfl ?_
            refine rt_isw rfl (v := 3) (by rw [cw]; decide +kernel) ?_
            refine RT_step (pc2 := 106) rfl (fun _ _ => rfl) ?_
            refine rt_ald rfl l0 ?_
            refine rt_ald rfl l1 ?_
            refine ow_iv1 (l2 := ((1, T) :: (2, bcl bs) :: [(3, dcl3 y0 y1 y2 y3 y4 y5 y6), (4, lng y7), (5, ia y8), (6, ia y9), (7, ia y10), (8, ia y11), (9, lng y12), (10, ia y13), (11, ia y14), (12, ia y15)])) rfl rfl rfl rfl hlen rfl rfl rfl ((h.1 H hlen).up (by decide)) rfl ?_
            refine rt_ist rfl (by decide +kernel) ?_
            refine RT_step (pc2 := 139) rfl (fun _ _ => rfl) ?_
            exact hq _ (gs_o rfl l0 rfl) (gs_o rfl l1 rfl) (gs_o rfl l2 rfl) gs_n
          · refine FR_st rfl rfl ?_
            refine RT_step (pc2 := 1) rfl (fun _ _ => rfl) ?_
            refine rt_ico rfl ki_0 ?_
            refine ow_iv1 rfl rfl rfl rfl hlen rfl rfl rfl ((m_isWord (ov_hl hlen) (ov_at rfl (ov_lt hlen (by decide))) hk (by decide)).up (by decide)) rfl ?_
            refine bcT_eq rfl (b01_f (i0.trans (decide_eq_false (by omega)))) ?_
            refine RT_step (pc2 := 14) rfl (fun _ _ => rfl) ?_
            refine rt_ico rfl ki_1 ?_
            refine ow_iv1 rfl rfl rfl rfl hlen rfl rfl rfl ((m_isWord (ov_hl hlen) (ov_at rfl (ov_lt hlen (by decide))) hk (by decide)).up (by decide)) rfl ?_
            refine bcT_eq rfl (b01_f (i1.trans (decide_eq_false (by omega)))) ?_
            refine RT_step (pc2 := 27) rfl (fun _ _ => rfl) ?_
            refine rt_ico rfl ki_3 ?_
            refine ow_iv1 rfl rfl rfl rfl hlen rfl rfl rfl ((m_isWord (ov_hl hlen) (ov_at rfl (ov_lt hlen (by decide))) hk (by decide)).up (by decide)) rfl ?_
            refine bcF_eq rfl (b01_t (i3.trans (decide_eq_true cw))) ?_
            refine RT_step (pc2 := 35) rfl (fun _ _ => rfl) ?_
            refine ow_iv1 (l2 := ((180, M) :: (181, mtl ts) :: [(183, ia y16), (188, lng y17), (191, zb y18)])) rfl rfl rfl rfl hlen rfl rfl rfl ((h.2 H hlen).up (by decide)) rfl ?_
            exact ow_irt rfl rfl rfl
        · have gg := g
          obtain ⟨y0, y1, y2, y3, y4, y5, y6, y7, y8, y9, y10, y11, y12, y13, y14, y15, y16, y17, y18, rfl, rfl, -⟩ := g
          refine Or.inr ⟨tk2, td2, T, M, _, _, c, gg, fun H L q hlen l0 l1 l2 hq => ?_, fun H hlen => ?_⟩
          · refine RT_step (pc2 := 37) rfl (fun _ _ => rfl) ?_
            refine rt_ald rfl l1 ?_
            refine ow_gf rfl rfl rfl hlen rfl ?_
            refine rt_ord rfl hw rfl ?_
            refine rt_isw rfl (v := 3) (by rw [cw]; decide +kernel) ?_
            refine RT_step (pc2 := 106) rfl (fun _ _ => rfl) ?_
            refine rt_ald rfl l0 ?_
            refine rt_ald rfl l1 ?_
            refine ow_iv1 (l2 := ((1, T) :: (2, bcl bs) :: [(3, dcl3 y0 y1 y2 y3 y4 y5 y6), (4, lng y7), (5, ia y8), (6, ia y9), (7, ia y10), (8, ia y11), (9, lng y12), (10, ia y13), (11, ia y14), (12, ia y15)])) rfl rfl rfl rfl hlen rfl rfl rfl ((h.1 H hlen).up (by decide)) rfl ?_
            refine rt_ist rfl (by decide +kernel) ?_
            refine RT_step (pc2 := 139) rfl (fun _ _ => rfl) ?_
            exact hq _ (gs_o rfl l0 rfl) (gs_o rfl l1 rfl) (gs_o rfl l2 rfl) gs_n
          · refine FR_st rfl rfl ?_
            refine RT_step (pc2 := 1) rfl (fun _ _ => rfl) ?_
            refine rt_ico rfl ki_0 ?_
            refine ow_iv1 rfl rfl rfl rfl hlen rfl rfl rfl ((m_isWord (ov_hl hlen) (ov_at rfl (ov_lt hlen (by decide))) hk (by decide)).up (by decide)) rfl ?_
            refine bcT_eq rfl (b01_f (i0.trans (decide_eq_false (by omega)))) ?_
            refine RT_step (pc2 := 14) rfl (fun _ _ => rfl) ?_
            refine rt_ico rfl ki_1 ?_
            refine ow_iv1 rfl rfl rfl rfl hlen rfl rfl rfl ((m_isWord (ov_hl hlen) (ov_at rfl (ov_lt hlen (by decide))) hk (by decide)).up (by decide)) rfl ?_
            refine bcT_eq rfl (b01_f (i1.trans (decide_eq_false (by omega)))) ?_
            refine RT_step (pc2 := 27) rfl (fun _ _ => rfl) ?_
            refine rt_ico rfl ki_3 ?_
            refine ow_iv1 rfl rfl rfl rfl hlen rfl rfl rfl ((m_isWord (ov_hl hlen) (ov_at rfl (ov_lt hlen (by decide))) hk (by decide)).up (by decide)) rfl ?_
            refine bcF_eq rfl (b01_t (i3.trans (decide_eq_true cw))) ?_
            refine RT_step (pc2 := 35) rfl (fun _ _ => rfl) ?_
            refine ow_iv1 (l2 := ((180, M) :: (181, mtl ts) :: [(183, ia y16), (188, lng y17), (191, zb y18)])) rfl rfl rfl rfl hlen rfl rfl rfl ((h.2 H hlen).up (by decide)) rfl ?_
            exact ow_irt rfl rfl rfl
      · by_cases cw : w = 7
        · rcases fo3 hB hM hb hn hl (pr := pr) (pl := pl) (tk := tk) (td := td) (fp := fp) (qm := qm) t (w_k1 t (by omega)) d with ⟨T, M, D, R, f, g1, g2, h⟩ | ⟨tk2, td2, T, M, D, R, c, g, h⟩
          · obtain ⟨y0, y1, y2, y3, y4, y5, y6, y7, y8, y9, y10, y11, y12, y13, y14, y15, rfl⟩ := g1
            obtain ⟨y16, y17, y18, rfl⟩ := g2
            refine Or.inl ⟨T, M, [(3, dcl3 y0 y1 y2 y3 y4 y5 y6), (4, lng y7), (5, ia y8), (6, ia y9), (7, ia y10), (8, ia y11), (9, lng y12), (10, ia y13), (11, ia y14), (12, ia y15)], [(183, ia y16), (188, lng y17), (191, zb y18)], f, ⟨_, _, _, _, _, _, _, _, _, _, _, _, _, _, _, _, rfl⟩, ⟨_, _, _, rfl⟩, fun H L q hlen l0 l1 l2 hq => ?_, fun H hlen => ?_⟩
            · refine RT_step (pc2 := 37) rfl (fun _ _ => rfl) ?_
              refine rt_ald rfl l1 ?_
              refine ow_gf rfl rfl rfl hlen rfl ?_
              refine rt_ord rfl hw rfl ?_
              refine rt_isw rfl (v := 4) (by rw [cw]; decide +kernel) ?_
              refine RT_step (pc2 := 115) rfl (fun _ _ => rfl) ?_
              refine rt_ald rfl l0 ?_
              refine rt_ald rfl l1 ?_
              refine ow_iv1 (l2 := ((1, T) :: (2, bcl bs) :: [(3, dcl3 y0 y1 y2 y3 y4 y5 y6), (4, lng y7), (5, ia y8), (6, ia y9), (7, ia y10), (8, ia y11), (9, lng y12), (10, ia y13), (11, ia y14), (12, ia y15)])) rfl rfl rfl rfl hlen rfl rfl rfl ((h.1 H hlen).up (by decide)) rfl ?_
              refine rt_ist rfl (by decide +kernel) ?_
              refine RT_step (pc2 := 139) rfl (fun _ _ => rfl) ?_
              exact hq _ (gs_o rfl l0 rfl) (gs_o rfl l1 rfl) (gs_o rfl l2 rfl) gs_n
            · refine FR_st rfl rfl ?_
              refine RT_step (pc2 := 1) rfl (fun _ _ => rfl) ?_
              refine rt_ico rfl ki_0 ?_
              refine ow_iv1 rfl rfl rfl rfl hlen rfl rfl rfl ((m_isWord (ov_hl hlen) (ov_at rfl (ov_lt hlen (by decide))) hk (by decide)).up (by decide)) rfl ?_
              refine bcT_eq rfl (b01_f (i0.trans (decide_eq_false (by omega)))) ?_
              refine RT_step (pc2 := 14) rfl (fun _ _ => rfl) ?_
              refine rt_ico rfl ki_1 ?_
              refine ow_iv1 rfl rfl rfl rfl hlen rfl rfl rfl ((m_isWord (ov_hl hlen) (ov_at rfl (ov_lt hlen (by decide))) hk (by decide)).up (by decide)) rfl ?_
              refine bcT_eq rfl (b01_f (i1.trans (decide_eq_false (by omega)))) ?_
              refine RT_step (pc2 := 27) rfl (fun _ _ => rfl) ?_
              refine rt_ico rfl ki_3 ?_
              refine ow_iv1 rfl rfl rfl rfl hlen rfl rfl rfl ((m_isWord (ov_hl hlen) (ov_at rfl (ov_lt hlen (by decide))) hk (by decide)).up (by decide)) rfl ?_
              refine bcT_eq rfl (b01_f (i3.trans (decide_eq_false (by omega)))) ?_
              refine RT_step (pc2 := 40) rfl (fun _ _ => rfl) ?_
              refine rt_ico rfl ki_4 ?_
              refine ow_iv1 rfl rfl rfl rfl hlen rfl rfl rfl ((m_isWord (ov_hl hlen) (ov_at rfl (ov_lt hlen (by decide))) hk (by decide)).up (by decide)) rfl ?_
              refine bcF_eq rfl (b01_t (i4.trans (decide_eq_true cw))) ?_
              refine RT_step (pc2 := 48) rfl (fun _ _ => rfl) ?_
              refine ow_iv1 (l2 := ((180, M) :: (181, mtl ts) :: [(183, ia y16), (188, lng y17), (191, zb y18)])) rfl rfl rfl rfl hlen rfl rfl rfl ((h.2 H hlen).up (by decide)) rfl ?_
              exact ow_irt rfl rfl rfl
          · have gg := g
            obtain ⟨y0, y1, y2, y3, y4, y5, y6, y7, y8, y9, y10, y11, y12, y13, y14, y15, y16, y17, y18, rfl, rfl, -⟩ := g
            refine Or.inr ⟨tk2, td2, T, M, _, _, c, gg, fun H L q hlen l0 l1 l2 hq => ?_, fun H hlen => ?_⟩
            · refine RT_step (pc2 := 37) rfl (fun _ _ => rfl) ?_
              refine rt_ald rfl l1 ?_
              refine ow_gf rfl rfl rfl hlen rfl ?_
              refine rt_ord rfl hw rfl ?_
              refine rt_isw rfl (v := 4) (by rw [cw]; decide +kernel) ?_
              refine RT_step (pc2 := 115) rfl (fun _ _ => rfl) ?_
              refine rt_ald rfl l0 ?_
              refine rt_ald rfl l1 ?_
              refine ow_iv1 (l2 := ((1, T) :: (2, bcl bs) :: [(3, dcl3 y0 y1 y2 y3 y4 y5 y6), (4, lng y7), (5, ia y8), (6, ia y9), (7, ia y10), (8, ia y11), (9, lng y12), (10, ia y13), (11, ia y14), (12, ia y15)])) rfl rfl rfl rfl hlen rfl rfl rfl ((h.1 H hlen).up (by decide)) rfl ?_
              refine rt_ist rfl (by decide +kernel) ?_
              refine RT_step (pc2 := 139) rfl (fun _ _ => rfl) ?_
              exact hq _ (gs_o rfl l0 rfl) (gs_o rfl l1 rfl) (gs_o rfl l2 rfl) gs_n
            · refine FR_st rfl rfl ?_
              refine RT_step (pc2 := 1) rfl (fun _ _ => rfl) ?_
              refine rt_ico rfl ki_0 ?_
              refine ow_iv1 rfl rfl rfl rfl hlen rfl rfl rfl ((m_isWord (ov_hl hlen) (ov_at rfl (ov_lt hlen (by decide))) hk (by decide)).up (by decide)) rfl ?_
              refine bcT_eq rfl (b01_f (i0.trans (decide_eq_false (by omega)))) ?_
              refine RT_step (pc2 := 14) rfl (fun _ _ => rfl) ?_
              refine rt_ico rfl ki_1 ?_
              refine ow_iv1 rfl rfl rfl rfl hlen rfl rfl rfl ((m_isWord (ov_hl hlen) (ov_at rfl (ov_lt hlen (by decide))) hk (by decide)).up (by decide)) rfl ?_
              refine bcT_eq rfl (b01_f (i1.trans (decide_eq_false (by omega)))) ?_
              refine RT_step (pc2 := 27) rfl (fun _ _ => rfl) ?_
              refine rt_ico rfl ki_3 ?_
              refine ow_iv1 rfl rfl rfl rfl hlen rfl rfl rfl ((m_isWord (ov_hl hlen) (ov_at rfl (ov_lt hlen (by decide))) hk (by decide)).up (by decide)) rfl ?_
              refine bcT_eq rfl (b01_f (i3.trans (decide_eq_false (by omega)))) ?_
              refine RT_step (pc2 := 40) rfl (fun _ _ => rfl) ?_
              refine rt_ico rfl ki_4 ?_
              refine ow_iv1 rfl rfl rfl rfl hlen rfl rfl rfl ((m_isWord (ov_hl hlen) (ov_at rfl (ov_lt hlen (by decide))) hk (by decide)).up (by decide)) rfl ?_
              refine bcF_eq rfl (b01_t (i4.trans (decide_eq_true cw))) ?_
              refine RT_step (pc2 := 48) rfl (fun _ _ => rfl) ?_
              refine ow_iv1 (l2 := ((180, M) :: (181, mtl ts) :: [(183, ia y16), (188, lng y17), (191, zb y18)])) rfl rfl rfl rfl hlen rfl rfl rfl ((h.2 H hlen).up (by decide)) rfl ?_
              exact ow_irt rfl rfl rfl
        · by_cases cw : w = 8
          · rcases on3_0 hB hM hb hn hl (pr := pr) (pl := pl) (tk := tk) (td := td) (fp := fp) (qm := qm) t cw d with ⟨T, M, D, R, f, g1, g2, h⟩ | ⟨tk2, td2, T, M, D, R, c, g, h⟩
            · obtain ⟨y0, y1, y2, y3, y4, y5, y6, y7, y8, y9, y10, y11, y12, y13, y14, y15, rfl⟩ := g1
              obtain ⟨y16, y17, y18, rfl⟩ := g2
              refine Or.inl ⟨T, M, [(3, dcl3 y0 y1 y2 y3 y4 y5 y6), (4, lng y7), (5, ia y8), (6, ia y9), (7, ia y10), (8, ia y11), (9, lng y12), (10, ia y13), (11, ia y14), (12, ia y15)], [(183, ia y16), (188, lng y17), (191, zb y18)], f, ⟨_, _, _, _, _, _, _, _, _, _, _, _, _, _, _, _, rfl⟩, ⟨_, _, _, rfl⟩, fun H L q hlen l0 l1 l2 hq => ?_, fun H hlen => ?_⟩
              · refine RT_step (pc2 := 37) rfl (fun _ _ => rfl) ?_
                refine rt_ald rfl l1 ?_
                refine ow_gf rfl rfl rfl hlen rfl ?_
                refine rt_ord rfl hw rfl ?_
                refine rt_isw rfl (v := 5) (by rw [cw]; decide +kernel) ?_
                refine RT_step (pc2 := 124) rfl (fun _ _ => rfl) ?_
                refine rt_ald rfl l0 ?_
                refine rt_ald rfl l1 ?_
                refine ow_iv1 (l2 := ((1, T) :: (2, bcl bs) :: [(3, dcl3 y0 y1 y2 y3 y4 y5 y6), (4, lng y7), (5, ia y8), (6, ia y9), (7, ia y10), (8, ia y11), (9, lng y12), (10, ia y13), (11, ia y14), (12, ia y15)])) rfl rfl rfl rfl hlen rfl rfl rfl ((h.1 H hlen).up (by decide)) rfl ?_
                refine rt_ist rfl (by decide +kernel) ?_
                refine RT_step (pc2 := 139) rfl (fun _ _ => rfl) ?_
                exact hq _ (gs_o rfl l0 rfl) (gs_o rfl l1 rfl) (gs_o rfl l2 rfl) gs_n
              · refine FR_st rfl rfl ?_
                refine RT_step (pc2 := 1) rfl (fun _ _ => rfl) ?_
                refine rt_ico rfl ki_0 ?_
                refine ow_iv1 rfl rfl rfl rfl hlen rfl rfl rfl ((m_isWord (ov_hl hlen) (ov_at rfl (ov_lt hlen (by decide))) hk (by decide)).up (by decide)) rfl ?_
                refine bcT_eq rfl (b01_f (i0.trans (decide_eq_false (by omega)))) ?_
                refine RT_step (pc2 := 14) rfl (fun _ _ => rfl) ?_
                refine rt_ico rfl ki_1 ?_
                refine ow_iv1 rfl rfl rfl rfl hlen rfl rfl rfl ((m_isWord (ov_hl hlen) (ov_at rfl (ov_lt hlen (by decide))) hk (by decide)).up (by decide)) rfl ?_
                refine bcT_eq rfl (b01_f (i1.trans (decide_eq_false (by omega)))) ?_
                refine RT_step (pc2 := 27) rfl (fun _ _ => rfl) ?_
                refine rt_ico rfl ki_3 ?_
                refine ow_iv1 rfl rfl rfl rfl hlen rfl rfl rfl ((m_isWord (ov_hl hlen) (ov_at rfl (ov_lt hlen (by decide))) hk (by decide)).up (by decide)) rfl ?_
                refine bcT_eq rfl (b01_f (i3.trans (decide_eq_false (by omega)))) ?_
                refine RT_step (pc2 := 40) rfl (fun _ _ => rfl) ?_
                refine rt_ico rfl ki_4 ?_
                refine ow_iv1 rfl rfl rfl rfl hlen rfl rfl rfl ((m_isWord (ov_hl hlen) (ov_at rfl (ov_lt hlen (by decide))) hk (by decide)).up (by decide)) rfl ?_
                refine bcT_eq rfl (b01_f (i4.trans (decide_eq_false (by omega)))) ?_
                refine rt_ico rfl ki_0 ?_
                refine RT_step (pc2 := 54) rfl (fun _ _ => rfl) ?_
                refine RT_step (pc2 := 55) rfl (fun _ _ => rfl) ?_
                refine rt_ico rfl ki_3 ?_
                refine biF_ge rfl (n_nle (by decide) (by decide)) ?_
                refine RT_step (pc2 := 60) rfl (fun _ _ => rfl) ?_
                refine rt_ico rfl ki_5 ?_
                refine RT_step (pc2 := 62) rfl (fun _ _ => rfl) ?_
                refine ba_iadd rfl ?_
                rw [n_add]
                refine ow_iv1 rfl rfl rfl rfl hlen rfl rfl rfl ((m_isWord (ov_hl hlen) (ov_at rfl (ov_lt hlen (by decide))) hk (by decide)).up (by decide)) rfl ?_
                refine bcF_eq rfl (b01_t (i5.trans (decide_eq_true cw))) ?_
                refine RT_step (pc2 := 70) rfl (fun _ _ => rfl) ?_
                refine RT_step (pc2 := 71) rfl (fun _ _ => rfl) ?_
                refine ow_iv1 (l2 := ((180, M) :: (181, mtl ts) :: [(183, ia y16), (188, lng y17), (191, zb y18)])) rfl rfl rfl rfl hlen rfl rfl rfl ((h.2 H hlen).up (by decide)) rfl ?_
                exact ow_irt rfl rfl rfl
            · have gg := g
              obtain ⟨y0, y1, y2, y3, y4, y5, y6, y7, y8, y9, y10, y11, y12, y13, y14, y15, y16, y17, y18, rfl, rfl, -⟩ := g
              refine Or.inr ⟨tk2, td2, T, M, _, _, c, gg, fun H L q hlen l0 l1 l2 hq => ?_, fun H hlen => ?_⟩
              · refine RT_step (pc2 := 37) rfl (fun _ _ => rfl) ?_
                refine rt_ald rfl l1 ?_
                refine ow_gf rfl rfl rfl hlen rfl ?_
                refine rt_ord rfl hw rfl ?_
                refine rt_isw rfl (v := 5) (by rw [cw]; decide +kernel) ?_
                refine RT_step (pc2 := 124) rfl (fun _ _ => rfl) ?_
                refine rt_ald rfl l0 ?_
                refine rt_ald rfl l1 ?_
                refine ow_iv1 (l2 := ((1, T) :: (2, bcl bs) :: [(3, dcl3 y0 y1 y2 y3 y4 y5 y6), (4, lng y7), (5, ia y8), (6, ia y9), (7, ia y10), (8, ia y11), (9, lng y12), (10, ia y13), (11, ia y14), (12, ia y15)])) rfl rfl rfl rfl hlen rfl rfl rfl ((h.1 H hlen).up (by decide)) rfl ?_
                refine rt_ist rfl (by decide +kernel) ?_
                refine RT_step (pc2 := 139) rfl (fun _ _ => rfl) ?_
                exact hq _ (gs_o rfl l0 rfl) (gs_o rfl l1 rfl) (gs_o rfl l2 rfl) gs_n
              · refine FR_st rfl rfl ?_
                refine RT_step (pc2 := 1) rfl (fun _ _ => rfl) ?_
                refine rt_ico rfl ki_0 ?_
                refine ow_iv1 rfl rfl rfl rfl hlen rfl rfl rfl ((m_isWord (ov_hl hlen) (ov_at rfl (ov_lt hlen (by decide))) hk (by decide)).up (by decide)) rfl ?_
                refine bcT_eq rfl (b01_f (i0.trans (decide_eq_false (by omega)))) ?_
                refine RT_step (pc2 := 14) rfl (fun _ _ => rfl) ?_
                refine rt_ico rfl ki_1 ?_
                refine ow_iv1 rfl rfl rfl rfl hlen rfl rfl rfl ((m_isWord (ov_hl hlen) (ov_at rfl (ov_lt hlen (by decide))) hk (by decide)).up (by decide)) rfl ?_
                refine bcT_eq rfl (b01_f (i1.trans (decide_eq_false (by omega)))) ?_
                refine RT_step (pc2 := 27) rfl (fun _ _ => rfl) ?_
                refine rt_ico rfl ki_3 ?_
                refine ow_iv1 rfl rfl rfl rfl hlen rfl rfl rfl ((m_isWord (ov_hl hlen) (ov_at rfl (ov_lt hlen (by decide))) hk (by decide)).up (by decide)) rfl ?_
                refine bcT_eq rfl (b01_f (i3.trans (decide_eq_false (by omega)))) ?_
                refine RT_step (pc2 := 40) rfl (fun _ _ => rfl) ?_
                refine rt_ico rfl ki_4 ?_
                refine ow_iv1 rfl rfl rfl rfl hlen rfl rfl rfl ((m_isWord (ov_hl hlen) (ov_at rfl (ov_lt hlen (by decide))) hk (by decide)).up (by decide)) rfl ?_
                refine bcT_eq rfl (b01_f (i4.trans (decide_eq_false (by omega)))) ?_
                refine rt_ico rfl ki_0 ?_
                refine RT_step (pc2 := 54) rfl (fun _ _ => rfl) ?_
                refine RT_step (pc2 := 55) rfl (fun _ _ => rfl) ?_
                refine rt_ico rfl ki_3 ?_
                refine biF_ge rfl (n_nle (by decide) (by decide)) ?_
                refine RT_step (pc2 := 60) rfl (fun _ _ => rfl) ?_
                refine rt_ico rfl ki_5 ?_
                refine RT_step (pc2 := 62) rfl (fun _ _ => rfl) ?_
                refine ba_iadd rfl ?_
                rw [n_add]
                refine ow_iv1 rfl rfl rfl rfl hlen rfl rfl rfl ((m_isWord (ov_hl hlen) (ov_at rfl (ov_lt hlen (by decide))) hk (by decide)).up (by decide)) rfl ?_
                refine bcF_eq rfl (b01_t (i5.trans (decide_eq_true cw))) ?_
                refine RT_step (pc2 := 70) rfl (fun _ _ => rfl) ?_
                refine RT_step (pc2 := 71) rfl (fun _ _ => rfl) ?_
                refine ow_iv1 (l2 := ((180, M) :: (181, mtl ts) :: [(183, ia y16), (188, lng y17), (191, zb y18)])) rfl rfl rfl rfl hlen rfl rfl rfl ((h.2 H hlen).up (by decide)) rfl ?_
                exact ow_irt rfl rfl rfl
          · by_cases cw : w = 9
            · rcases on3_1 hB hM hb hn hl (pr := pr) (pl := pl) (tk := tk) (td := td) (fp := fp) (qm := qm) t cw d with ⟨T, M, D, R, f, g1, g2, h⟩ | ⟨tk2, td2, T, M, D, R, c, g, h⟩
              · obtain ⟨y0, y1, y2, y3, y4, y5, y6, y7, y8, y9, y10, y11, y12, y13, y14, y15, rfl⟩ := g1
                obtain ⟨y16, y17, y18, rfl⟩ := g2
                refine Or.inl ⟨T, M, [(3, dcl3 y0 y1 y2 y3 y4 y5 y6), (4, lng y7), (5, ia y8), (6, ia y9), (7, ia y10), (8, ia y11), (9, lng y12), (10, ia y13), (11, ia y14), (12, ia y15)], [(183, ia y16), (188, lng y17), (191, zb y18)], f, ⟨_, _, _, _, _, _, _, _, _, _, _, _, _, _, _, _, rfl⟩, ⟨_, _, _, rfl⟩, fun H L q hlen l0 l1 l2 hq => ?_, fun H hlen => ?_⟩
                · refine RT_step (pc2 := 37) rfl (fun _ _ => rfl) ?_
                  refine rt_ald rfl l1 ?_
                  refine ow_gf rfl rfl rfl hlen rfl ?_
                  refine rt_ord rfl hw rfl ?_
                  refine rt_isw rfl (v := 6) (by rw [cw]; decide +kernel) ?_
                  refine RT_step (pc2 := 124) rfl (fun _ _ => rfl) ?_
                  refine rt_ald rfl l0 ?_
                  refine rt_ald rfl l1 ?_
                  refine ow_iv1 (l2 := ((1, T) :: (2, bcl bs) :: [(3, dcl3 y0 y1 y2 y3 y4 y5 y6), (4, lng y7), (5, ia y8), (6, ia y9), (7, ia y10), (8, ia y11), (9, lng y12), (10, ia y13), (11, ia y14), (12, ia y15)])) rfl rfl rfl rfl hlen rfl rfl rfl ((h.1 H hlen).up (by decide)) rfl ?_
                  refine rt_ist rfl (by decide +kernel) ?_
                  refine RT_step (pc2 := 139) rfl (fun _ _ => rfl) ?_
                  exact hq _ (gs_o rfl l0 rfl) (gs_o rfl l1 rfl) (gs_o rfl l2 rfl) gs_n
                · refine FR_st rfl rfl ?_
                  refine RT_step (pc2 := 1) rfl (fun _ _ => rfl) ?_
                  refine rt_ico rfl ki_0 ?_
                  refine ow_iv1 rfl rfl rfl rfl hlen rfl rfl rfl ((m_isWord (ov_hl hlen) (ov_at rfl (ov_lt hlen (by decide))) hk (by decide)).up (by decide)) rfl ?_
                  refine bcT_eq rfl (b01_f (i0.trans (decide_eq_false (by omega)))) ?_
                  refine RT_step (pc2 := 14) rfl (fun _ _ => rfl) ?_
                  refine rt_ico rfl ki_1 ?_
                  refine ow_iv1 rfl rfl rfl rfl hlen rfl rfl rfl ((m_isWord (ov_hl hlen) (ov_at rfl (ov_lt hlen (by decide))) hk (by decide)).up (by decide)) rfl ?_
                  refine bcT_eq rfl (b01_f (i1.trans (decide_eq_false (by omega)))) ?_
                  refine RT_step (pc2 := 27) rfl (fun _ _ => rfl) ?_
                  refine rt_ico rfl ki_3 ?_
                  refine ow_iv1 rfl rfl rfl rfl hlen rfl rfl rfl ((m_isWord (ov_hl hlen) (ov_at rfl (ov_lt hlen (by decide))) hk (by decide)).up (by decide)) rfl ?_
                  refine bcT_eq rfl (b01_f (i3.trans (decide_eq_false (by omega)))) ?_
                  refine RT_step (pc2 := 40) rfl (fun _ _ => rfl) ?_
                  refine rt_ico rfl ki_4 ?_
                  refine ow_iv1 rfl rfl rfl rfl hlen rfl rfl rfl ((m_isWord (ov_hl hlen) (ov_at rfl (ov_lt hlen (by decide))) hk (by decide)).up (by decide)) rfl ?_
                  refine bcT_eq rfl (b01_f (i4.trans (decide_eq_false (by omega)))) ?_
                  refine rt_ico rfl ki_0 ?_
                  refine RT_step (pc2 := 54) rfl (fun _ _ => rfl) ?_
                  refine RT_step (pc2 := 55) rfl (fun _ _ => rfl) ?_
                  refine rt_ico rfl ki_3 ?_
                  refine biF_ge rfl (n_nle (by decide) (by decide)) ?_
                  refine RT_step (pc2 := 60) rfl (fun _ _ => rfl) ?_
                  refine rt_ico rfl ki_5 ?_
                  refine RT_step (pc2 := 62) rfl (fun _ _ => rfl) ?_
                  refine ba_iadd rfl ?_
                  rw [n_add]
                  refine ow_iv1 rfl rfl rfl rfl hlen rfl rfl rfl ((m_isWord (ov_hl hlen) (ov_at rfl (ov_lt hlen (by decide))) hk (by decide)).up (by decide)) rfl ?_
                  refine bcT_eq rfl (b01_f (i5.trans (decide_eq_false (by omega)))) ?_
                  refine RT_step (pc2 := 78) rfl (fun _ _ => rfl) ?_
                  rw [in_1]
                  refine RT_step (pc2 := 54) rfl (fun _ _ => rfl) ?_
                  refine RT_step (pc2 := 55) rfl (fun _ _ => rfl) ?_
                  refine rt_ico rfl ki_3 ?_
                  refine biF_ge rfl (n_nle (by decide) (by decide)) ?_
                  refine RT_step (pc2 := 60) rfl (fun _ _ => rfl) ?_
                  refine rt_ico rfl ki_5 ?_
                  refine RT_step (pc2 := 62) rfl (fun _ _ => rfl) ?_
                  refine ba_iadd rfl ?_
                  rw [n_add]
                  refine ow_iv1 rfl rfl rfl rfl hlen rfl rfl rfl ((m_isWord (ov_hl hlen) (ov_at rfl (ov_lt hlen (by decide))) hk (by decide)).up (by decide)) rfl ?_
                  refine bcF_eq rfl (b01_t (i6.trans (decide_eq_true cw))) ?_
                  refine RT_step (pc2 := 70) rfl (fun _ _ => rfl) ?_
                  refine RT_step (pc2 := 71) rfl (fun _ _ => rfl) ?_
                  refine ow_iv1 (l2 := ((180, M) :: (181, mtl ts) :: [(183, ia y16), (188, lng y17), (191, zb y18)])) rfl rfl rfl rfl hlen rfl rfl rfl ((h.2 H hlen).up (by decide)) rfl ?_
                  exact ow_irt rfl rfl rfl
              · have gg := g
                obtain ⟨y0, y1, y2, y3, y4, y5, y6, y7, y8, y9, y10, y11, y12, y13, y14, y15, y16, y17, y18, rfl, rfl, -⟩ := g
                refine Or.inr ⟨tk2, td2, T, M, _, _, c, gg, fun H L q hlen l0 l1 l2 hq => ?_, fun H hlen => ?_⟩
                · refine RT_step (pc2 := 37) rfl (fun _ _ => rfl) ?_
                  refine rt_ald rfl l1 ?_
                  refine ow_gf rfl rfl rfl hlen rfl ?_
                  refine rt_ord rfl hw rfl ?_
                  refine rt_isw rfl (v := 6) (by rw [cw]; decide +kernel) ?_
                  refine RT_step (pc2 := 124) rfl (fun _ _ => rfl) ?_
                  refine rt_ald rfl l0 ?_
                  refine rt_ald rfl l1 ?_
                  refine ow_iv1 (l2 := ((1, T) :: (2, bcl bs) :: [(3, dcl3 y0 y1 y2 y3 y4 y5 y6), (4, lng y7), (5, ia y8), (6, ia y9), (7, ia y10), (8, ia y11), (9, lng y12), (10, ia y13), (11, ia y14), (12, ia y15)])) rfl rfl rfl rfl hlen rfl rfl rfl ((h.1 H hlen).up (by decide)) rfl ?_
                  refine rt_ist rfl (by decide +kernel) ?_
                  refine RT_step (pc2 := 139) rfl (fun _ _ => rfl) ?_
                  exact hq _ (gs_o rfl l0 rfl) (gs_o rfl l1 rfl) (gs_o rfl l2 rfl) gs_n
                · refine FR_st rfl rfl ?_
                  refine RT_step (pc2 := 1) rfl (fun _ _ => rfl) ?_
                  refine rt_ico rfl ki_0 ?_
                  refine ow_iv1 rfl rfl rfl rfl hlen rfl rfl rfl ((m_isWord (ov_hl hlen) (ov_at rfl (ov_lt hlen (by decide))) hk (by decide)).up (by decide)) rfl ?_
                  refine bcT_eq rfl (b01_f (i0.trans (decide_eq_false (by omega)))) ?_
                  refine RT_step (pc2 := 14) rfl (fun _ _ => rfl) ?_
                  refine rt_ico rfl ki_1 ?_
                  refine ow_iv1 rfl rfl rfl rfl hlen rfl rfl rfl ((m_isWord (ov_hl hlen) (ov_at rfl (ov_lt hlen (by decide))) hk (by decide)).up (by decide)) rfl ?_
                  refine bcT_eq rfl (b01_f (i1.trans (decide_eq_false (by omega)))) ?_
                  refine RT_step (pc2 := 27) rfl (fun _ _ => rfl) ?_
                  refine rt_ico rfl ki_3 ?_
                  refine ow_iv1 rfl rfl rfl rfl hlen rfl rfl rfl ((m_isWord (ov_hl hlen) (ov_at rfl (ov_lt hlen (by decide))) hk (by decide)).up (by decide)) rfl ?_
                  refine bcT_eq rfl (b01_f (i3.trans (decide_eq_false (by omega)))) ?_
                  refine RT_step (pc2 := 40) rfl (fun _ _ => rfl) ?_
                  refine rt_ico rfl ki_4 ?_
                  refine ow_iv1 rfl rfl rfl rfl hlen rfl rfl rfl ((m_isWord (ov_hl hlen) (ov_at rfl (ov_lt hlen (by decide))) hk (by decide)).up (by decide)) rfl ?_
                  refine bcT_eq rfl (b01_f (i4.trans (decide_eq_false (by omega)))) ?_
                  refine rt_ico rfl ki_0 ?_
                  refine RT_step (pc2 := 54) rfl (fun _ _ => rfl) ?_
                  refine RT_step (pc2 := 55) rfl (fun _ _ => rfl) ?_
                  refine rt_ico rfl ki_3 ?_
                  refine biF_ge rfl (n_nle (by decide) (by decide)) ?_
                  refine RT_step (pc2 := 60) rfl (fun _ _ => rfl) ?_
                  refine rt_ico rfl ki_5 ?_
                  refine RT_step (pc2 := 62) rfl (fun _ _ => rfl) ?_
                  refine ba_iadd rfl ?_
                  rw [n_add]
                  refine ow_iv1 rfl rfl rfl rfl hlen rfl rfl rfl ((m_isWord (ov_hl hlen) (ov_at rfl (ov_lt hlen (by decide))) hk (by decide)).up (by decide)) rfl ?_
                  refine bcT_eq rfl (b01_f (i5.trans (decide_eq_false (by omega)))) ?_
                  refine RT_step (pc2 := 78) rfl (fun _ _ => rfl) ?_
                  rw [in_1]
                  refine RT_step (pc2 := 54) rfl (fun _ _ => rfl) ?_
                  refine RT_step (pc2 := 55) rfl (fun _ _ => rfl) ?_
                  refine rt_ico rfl ki_3 ?_
                  refine biF_ge rfl (n_nle (by decide) (by decide)) ?_
                  refine RT_step (pc2 := 60) rfl (fun _ _ => rfl) ?_
                  refine rt_ico rfl ki_5 ?_
                  refine RT_step (pc2 := 62) rfl (fun _ _ => rfl) ?_
                  refine ba_iadd rfl ?_
                  rw [n_add]
                  refine ow_iv1 rfl rfl rfl rfl hlen rfl rfl rfl ((m_isWord (ov_hl hlen) (ov_at rfl (ov_lt hlen (by decide))) hk (by decide)).up (by decide)) rfl ?_
                  refine bcF_eq rfl (b01_t (i6.trans (decide_eq_true cw))) ?_
                  refine RT_step (pc2 := 70) rfl (fun _ _ => rfl) ?_
                  refine RT_step (pc2 := 71) rfl (fun _ _ => rfl) ?_
                  refine ow_iv1 (l2 := ((180, M) :: (181, mtl ts) :: [(183, ia y16), (188, lng y17), (191, zb y18)])) rfl rfl rfl rfl hlen rfl rfl rfl ((h.2 H hlen).up (by decide)) rfl ?_
                  exact ow_irt rfl rfl rfl
            · by_cases cw : w = 10
              · rcases on3_2 hB hM hb hn hl (pr := pr) (pl := pl) (tk := tk) (td := td) (fp := fp) (qm := qm) t cw d with ⟨T, M, D, R, f, g1, g2, h⟩ | ⟨tk2, td2, T, M, D, R, c, g, h⟩
                · obtain ⟨y0, y1, y2, y3, y4, y5, y6, y7, y8, y9, y10, y11, y12, y13, y14, y15, rfl⟩ := g1
                  obtain ⟨y16, y17, y18, rfl⟩ := g2
                  refine Or.inl ⟨T, M, [(3, dcl3 y0 y1 y2 y3 y4 y5 y6), (4, lng y7), (5, ia y8), (6, ia y9), (7, ia y10), (8, ia y11), (9, lng y12), (10, ia y13), (11, ia y14), (12, ia y15)], [(183, ia y16), (188, lng y17), (191, zb y18)], f, ⟨_, _, _, _, _, _, _, _, _, _, _, _, _, _, _, _, rfl⟩, ⟨_, _, _, rfl⟩, fun H L q hlen l0 l1 l2 hq => ?_, fun H hlen => ?_⟩
                  · refine RT_step (pc2 := 37) rfl (fun _ _ => rfl) ?_
                    refine rt_ald rfl l1 ?_
                    refine ow_gf rfl rfl rfl hlen rfl ?_
                    refine rt_ord rfl hw rfl ?_
                    refine rt_isw rfl (v := 7) (by rw [cw]; decide +kernel) ?_
                    refine RT_step (pc2 := 124) rfl (fun _ _ => rfl) ?_
                    refine rt_ald rfl l0 ?_
                    refine rt_ald rfl l1 ?_
                    refine ow_iv1 (l2 := ((1, T) :: (2, bcl bs) :: [(3, dcl3 y0 y1 y2 y3 y4 y5 y6), (4, lng y7), (5, ia y8), (6, ia y9), (7, ia y10), (8, ia y11), (9, lng y12), (10, ia y13), (11, ia y14), (12, ia y15)])) rfl rfl rfl rfl hlen rfl rfl rfl ((h.1 H hlen).up (by decide)) rfl ?_
                    refine rt_ist rfl (by decide +kernel) ?_
                    refine RT_step (pc2 := 139) rfl (fun _ _ => rfl) ?_
                    exact hq _ (gs_o rfl l0 rfl) (gs_o rfl l1 rfl) (gs_o rfl l2 rfl) gs_n
                  · refine FR_st rfl rfl ?_
                    refine RT_step (pc2 := 1) rfl (fun _ _ => rfl) ?_
                    refine rt_ico rfl ki_0 ?_
                    refine ow_iv1 rfl rfl rfl rfl hlen rfl rfl rfl ((m_isWord (ov_hl hlen) (ov_at rfl (ov_lt hlen (by decide))) hk (by decide)).up (by decide)) rfl ?_
                    refine bcT_eq rfl (b01_f (i0.trans (decide_eq_false (by omega)))) ?_
                    refine RT_step (pc2 := 14) rfl (fun _ _ => rfl) ?_
                    refine rt_ico rfl ki_1 ?_
                    refine ow_iv1 rfl rfl rfl rfl hlen rfl rfl rfl ((m_isWord (ov_hl hlen) (ov_at rfl (ov_lt hlen (by decide))) hk (by decide)).up (by decide)) rfl ?_
                    refine bcT_eq rfl (b01_f (i1.trans (decide_eq_false (by omega)))) ?_
                    refine RT_step (pc2 := 27) rfl (fun _ _ => rfl) ?_
                    refine rt_ico rfl ki_3 ?_
                    refine ow_iv1 rfl rfl rfl rfl hlen rfl rfl rfl ((m_isWord (ov_hl hlen) (ov_at rfl (ov_lt hlen (by decide))) hk (by decide)).up (by decide)) rfl ?_
                    refine bcT_eq rfl (b01_f (i3.trans (decide_eq_false (by omega)))) ?_
                    refine RT_step (pc2 := 40) rfl (fun _ _ => rfl) ?_
                    refine rt_ico rfl ki_4 ?_
                    refine ow_iv1 rfl rfl rfl rfl hlen rfl rfl rfl ((m_isWord (ov_hl hlen) (ov_at rfl (ov_lt hlen (by decide))) hk (by decide)).up (by decide)) rfl ?_
                    refine bcT_eq rfl (b01_f (i4.trans (decide_eq_false (by omega)))) ?_
                    refine rt_ico rfl ki_0 ?_
                    refine RT_step (pc2 := 54) rfl (fun _ _ => rfl) ?_
                    refine RT_step (pc2 := 55) rfl (fun _ _ => rfl) ?_
                    refine rt_ico rfl ki_3 ?_
                    refine biF_ge rfl (n_nle (by decide) (by decide)) ?_
                    refine RT_step (pc2 := 60) rfl (fun _ _ => rfl) ?_
                    refine rt_ico rfl ki_5 ?_
                    refine RT_step (pc2 := 62) rfl (fun _ _ => rfl) ?_
                    refine ba_iadd rfl ?_
                    rw [n_add]
                    refine ow_iv1 rfl rfl rfl rfl hlen rfl rfl rfl ((m_isWord (ov_hl hlen) (ov_at rfl (ov_lt hlen (by decide))) hk (by decide)).up (by decide)) rfl ?_
                    refine bcT_eq rfl (b01_f (i5.trans (decide_eq_false (by omega)))) ?_
                    refine RT_step (pc2 := 78) rfl (fun _ _ => rfl) ?_
                    rw [in_1]
                    refine RT_step (pc2 := 54) rfl (fun _ _ => rfl) ?_
                    refine RT_step (pc2 := 55) rfl (fun _ _ => rfl) ?_
                    refine rt_ico rfl ki_3 ?_
                    refine biF_ge rfl (n_nle (by decide) (by decide)) ?_
                    refine RT_step (pc2 := 60) rfl (fun _ _ => rfl) ?_
                    refine rt_ico rfl ki_5 ?_
                    refine RT_step (pc2 := 62) rfl (fun _ _ => rfl) ?_
                    refine ba_iadd rfl ?_
                    rw [n_add]
                    refine ow_iv1 rfl rfl rfl rfl hlen rfl rfl rfl ((m_isWord (ov_hl hlen) (ov_at rfl (ov_lt hlen (by decide))) hk (by decide)).up (by decide)) rfl ?_
                    refine bcT_eq rfl (b01_f (i6.trans (decide_eq_false (by omega)))) ?_
                    refine RT_step (pc2 := 78) rfl (fun _ _ => rfl) ?_
                    rw [in_1]
                    refine RT_step (pc2 := 54) rfl (fun _ _ => rfl) ?_
                    refine RT_step (pc2 := 55) rfl (fun _ _ => rfl) ?_
                    refine rt_ico rfl ki_3 ?_
                    refine biF_ge rfl (n_nle (by decide) (by decide)) ?_
                    refine RT_step (pc2 := 60) rfl (fun _ _ => rfl) ?_
                    refine rt_ico rfl ki_5 ?_
                    refine RT_step (pc2 := 62) rfl (fun _ _ => rfl) ?_
                    refine ba_iadd rfl ?_
                    rw [n_add]
                    refine ow_iv1 rfl rfl rfl rfl hlen rfl rfl rfl ((m_isWord (ov_hl hlen) (ov_at rfl (ov_lt hlen (by decide))) hk (by decide)).up (by decide)) rfl ?_
                    refine bcF_eq rfl (b01_t (i7.trans (decide_eq_true cw))) ?_
                    refine RT_step (pc2 := 70) rfl (fun _ _ => rfl) ?_
                    refine RT_step (pc2 := 71) rfl (fun _ _ => rfl) ?_
                    refine ow_iv1 (l2 := ((180, M) :: (181, mtl ts) :: [(183, ia y16), (188, lng y17), (191, zb y18)])) rfl rfl rfl rfl hlen rfl rfl rfl ((h.2 H hlen).up (by decide)) rfl ?_
                    exact ow_irt rfl rfl rfl
                · have gg := g
                  obtain ⟨y0, y1, y2, y3, y4, y5, y6, y7, y8, y9, y10, y11, y12, y13, y14, y15, y16, y17, y18, rfl, rfl, -⟩ := g
                  refine Or.inr ⟨tk2, td2, T, M, _, _, c, gg, fun H L q hlen l0 l1 l2 hq => ?_, fun H hlen => ?_⟩
                  · refine RT_step (pc2 := 37) rfl (fun _ _ => rfl) ?_
                    refine rt_ald rfl l1 ?_
                    refine ow_gf rfl rfl rfl hlen rfl ?_
                    refine rt_ord rfl hw rfl ?_
                    refine rt_isw rfl (v := 7) (by rw [cw]; decide +kernel) ?_
                    refine RT_step (pc2 := 124) rfl (fun _ _ => rfl) ?_
                    refine rt_ald rfl l0 ?_
                    refine rt_ald rfl l1 ?_
                    refine ow_iv1 (l2 := ((1, T) :: (2, bcl bs) :: [(3, dcl3 y0 y1 y2 y3 y4 y5 y6), (4, lng y7), (5, ia y8), (6, ia y9), (7, ia y10), (8, ia y11), (9, lng y12), (10, ia y13), (11, ia y14), (12, ia y15)])) rfl rfl rfl rfl hlen rfl rfl rfl ((h.1 H hlen).up (by decide)) rfl ?_
                    refine rt_ist rfl (by decide +kernel) ?_
                    refine RT_step (pc2 := 139) rfl (fun _ _ => rfl) ?_
                    exact hq _ (gs_o rfl l0 rfl) (gs_o rfl l1 rfl) (gs_o rfl l2 rfl) gs_n
                  · refine FR_st rfl rfl ?_
                    refine RT_step (pc2 := 1) rfl (fun _ _ => rfl) ?_
                    refine rt_ico rfl ki_0 ?_
                    refine ow_iv1 rfl rfl rfl rfl hlen rfl rfl rfl ((m_isWord (ov_hl hlen) (ov_at rfl (ov_lt hlen (by decide))) hk (by decide)).up (by decide)) rfl ?_
                    refine bcT_eq rfl (b01_f (i0.trans (decide_eq_false (by omega)))) ?_
                    refine RT_step (pc2 := 14) rfl (fun _ _ => rfl) ?_
                    refine rt_ico rfl ki_1 ?_
                    refine ow_iv1 rfl rfl rfl rfl hlen rfl rfl rfl ((m_isWord (ov_hl hlen) (ov_at rfl (ov_lt hlen (by decide))) hk (by decide)).up (by decide)) rfl ?_
                    refine bcT_eq rfl (b01_f (i1.trans (decide_eq_false (by omega)))) ?_
                    refine RT_step (pc2 := 27) rfl (fun _ _ => rfl) ?_
                    refine rt_ico rfl ki_3 ?_
                    refine ow_iv1 rfl rfl rfl rfl hlen rfl rfl rfl ((m_isWord (ov_hl hlen) (ov_at rfl (ov_lt hlen (by decide))) hk (by decide)).up (by decide)) rfl ?_
                    refine bcT_eq rfl (b01_f (i3.trans (decide_eq_false (by omega)))) ?_
                    refine RT_step (pc2 := 40) rfl (fun _ _ => rfl) ?_
                    refine rt_ico rfl ki_4 ?_
                    refine ow_iv1 rfl rfl rfl rfl hlen rfl rfl rfl ((m_isWord (ov_hl hlen) (ov_at rfl (ov_lt hlen (by decide))) hk (by decide)).up (by decide)) rfl ?_
                    refine bcT_eq rfl (b01_f (i4.trans (decide_eq_false (by omega)))) ?_
                    refine rt_ico rfl ki_0 ?_
                    refine RT_step (pc2 := 54) rfl (fun _ _ => rfl) ?_
                    refine RT_step (pc2 := 55) rfl (fun _ _ => rfl) ?_
                    refine rt_ico rfl ki_3 ?_
                    refine biF_ge rfl (n_nle (by decide) (by decide)) ?_
                    refine RT_step (pc2 := 60) rfl (fun _ _ => rfl) ?_
                    refine rt_ico rfl ki_5 ?_
                    refine RT_step (pc2 := 62) rfl (fun _ _ => rfl) ?_
                    refine ba_iadd rfl ?_
                    rw [n_add]
                    refine ow_iv1 rfl rfl rfl rfl hlen rfl rfl rfl ((m_isWord (ov_hl hlen) (ov_at rfl (ov_lt hlen (by decide))) hk (by decide)).up (by decide)) rfl ?_
                    refine bcT_eq rfl (b01_f (i5.trans (decide_eq_false (by omega)))) ?_
                    refine RT_step (pc2 := 78) rfl (fun _ _ => rfl) ?_
                    rw [in_1]
                    refine RT_step (pc2 := 54) rfl (fun _ _ => rfl) ?_
                    refine RT_step (pc2 := 55) rfl (fun _ _ => rfl) ?_
                    refine rt_ico rfl ki_3 ?_
                    refine biF_ge rfl (n_nle (by decide) (by decide)) ?_
                    refine RT_step (pc2 := 60) rfl (fun _ _ => rfl) ?_
                    refine rt_ico rfl ki_5 ?_
                    refine RT_step (pc2 := 62) rfl (fun _ _ => rfl) ?_
                    refine ba_iadd rfl ?_
                    rw [n_add]
                    refine ow_iv1 rfl rfl rfl rfl hlen rfl rfl rfl ((m_isWord (ov_hl hlen) (ov_at rfl (ov_lt hlen (by decide))) hk (by decide)).up (by decide)) rfl ?_
                    refine bcT_eq rfl (b01_f (i6.trans (decide_eq_false (by omega)))) ?_
                    refine RT_step (pc2 := 78) rfl (fun _ _ => rfl) ?_
                    rw [in_1]
                    refine RT_step (pc2 := 54) rfl (fun _ _ => rfl) ?_
                    refine RT_step (pc2 := 55) rfl (fun _ _ => rfl) ?_
                    refine rt_ico rfl ki_3 ?_
                    refine biF_ge rfl (n_nle (by decide) (by decide)) ?_
                    refine RT_step (pc2 := 60) rfl (fun _ _ => rfl) ?_
                    refine rt_ico rfl ki_5 ?_
                    refine RT_step (pc2 := 62) rfl (fun _ _ => rfl) ?_
                    refine ba_iadd rfl ?_
                    rw [n_add]
                    refine ow_iv1 rfl rfl rfl rfl hlen rfl rfl rfl ((m_isWord (ov_hl hlen) (ov_at rfl (ov_lt hlen (by decide))) hk (by decide)).up (by decide)) rfl ?_
                    refine bcF_eq rfl (b01_t (i7.trans (decide_eq_true cw))) ?_
                    refine RT_step (pc2 := 70) rfl (fun _ _ => rfl) ?_
                    refine RT_step (pc2 := 71) rfl (fun _ _ => rfl) ?_
                    refine ow_iv1 (l2 := ((180, M) :: (181, mtl ts) :: [(183, ia y16), (188, lng y17), (191, zb y18)])) rfl rfl rfl rfl hlen rfl rfl rfl ((h.2 H hlen).up (by decide)) rfl ?_
                    exact ow_irt rfl rfl rfl
              · obtain ⟨T, M, f, hx, hm⟩ := s_ref (bs := bs) (ts := ts) (lim := lim) (po := pof pr) (pl := pl) (tk := tk) (td := td) (fp := fp) (plM := qm) t (kk := 1) (by decide) (by decide) (Or.inr rfl)
                obtain ⟨sv, es, ev⟩ := sw_other w hw (by omega) (by omega) (by omega) (by omega) (by omega) (by omega) (by omega)
                refine Or.inl ⟨T, M, [(3, dcl3 P Dn lw cl id gl bo), (4, lng pn), (5, ia ri), (6, ia lf), (7, ia wa), (8, ia fo), (9, lng dn), (10, ia ha), (11, ia pa), (12, ia bl)], [(183, ia rd), (188, lng rn), (191, zb on)], f, ⟨_, _, _, _, _, _, _, _, _, _, _, _, _, _, _, _, rfl⟩, ⟨_, _, _, rfl⟩, fun H L q hlen l0 l1 l2 hq => ?_, fun H hlen => ?_⟩
                · refine RT_step (pc2 := 37) rfl (fun _ _ => rfl) ?_
                  refine rt_ald rfl l1 ?_
                  refine ow_gf rfl rfl rfl hlen rfl ?_
                  refine rt_ord rfl hw rfl ?_
                  refine rt_isw rfl es ?_
                  refine rt_tsD (t := 133) rfl ev rfl ?_
                  refine rt_ald rfl l1 ?_
                  refine rt_ico rfl ki_1 ?_
                  refine ow_iv1 (l2 := ((1, T) :: (2, bcl bs) :: [(3, dcl3 P Dn lw cl id gl bo), (4, lng pn), (5, ia ri), (6, ia lf), (7, ia wa), (8, ia fo), (9, lng dn), (10, ia ha), (11, ia pa), (12, ia bl)])) rfl rfl rfl rfl hlen rfl rfl rfl ((hx _ (ov_hl hlen) (ov_at rfl (ov_lt hlen (by decide))) (ov_at rfl (ov_lt hlen (by decide)))).up (by decide)) rfl ?_
                  refine rt_ist rfl (by decide +kernel) ?_
                  exact hq _ (gs_o rfl l0 rfl) (gs_o rfl l1 rfl) (gs_o rfl l2 rfl) gs_n
                · refine FR_st rfl rfl ?_
                  refine RT_step (pc2 := 1) rfl (fun _ _ => rfl) ?_
                  refine rt_ico rfl ki_0 ?_
                  refine ow_iv1 rfl rfl rfl rfl hlen rfl rfl rfl ((m_isWord (ov_hl hlen) (ov_at rfl (ov_lt hlen (by decide))) hk (by decide)).up (by decide)) rfl ?_
                  refine bcT_eq rfl (b01_f (i0.trans (decide_eq_false (by omega)))) ?_
                  refine RT_step (pc2 := 14) rfl (fun _ _ => rfl) ?_
                  refine rt_ico rfl ki_1 ?_
                  refine ow_iv1 rfl rfl rfl rfl hlen rfl rfl rfl ((m_isWord (ov_hl hlen) (ov_at rfl (ov_lt hlen (by decide))) hk (by decide)).up (by decide)) rfl ?_
                  refine bcT_eq rfl (b01_f (i1.trans (decide_eq_false (by omega)))) ?_
                  refine RT_step (pc2 := 27) rfl (fun _ _ => rfl) ?_
                  refine rt_ico rfl ki_3 ?_
                  refine ow_iv1 rfl rfl rfl rfl hlen rfl rfl rfl ((m_isWord (ov_hl hlen) (ov_at rfl (ov_lt hlen (by decide))) hk (by decide)).up (by decide)) rfl ?_
                  refine bcT_eq rfl (b01_f (i3.trans (decide_eq_false (by omega)))) ?_
                  refine RT_step (pc2 := 40) rfl (fun _ _ => rfl) ?_
                  refine rt_ico rfl ki_4 ?_
                  refine ow_iv1 rfl rfl rfl rfl hlen rfl rfl rfl ((m_isWord (ov_hl hlen) (ov_at rfl (ov_lt hlen (by decide))) hk (by decide)).up (by decide)) rfl ?_
                  refine bcT_eq rfl (b01_f (i4.trans (decide_eq_false (by omega)))) ?_
                  refine rt_ico rfl ki_0 ?_
                  refine RT_step (pc2 := 54) rfl (fun _ _ => rfl) ?_
                  refine RT_step (pc2 := 55) rfl (fun _ _ => rfl) ?_
                  refine rt_ico rfl ki_3 ?_
                  refine biF_ge rfl (n_nle (by decide) (by decide)) ?_
                  refine RT_step (pc2 := 60) rfl (fun _ _ => rfl) ?_
                  refine rt_ico rfl ki_5 ?_
                  refine RT_step (pc2 := 62) rfl (fun _ _ => rfl) ?_
                  refine ba_iadd rfl ?_
                  rw [n_add]
                  refine ow_iv1 rfl rfl rfl rfl hlen rfl rfl rfl ((m_isWord (ov_hl hlen) (ov_at rfl (ov_lt hlen (by decide))) hk (by decide)).up (by decide)) rfl ?_
                  refine bcT_eq rfl (b01_f (i5.trans (decide_eq_false (by omega)))) ?_
                  refine RT_step (pc2 := 78) rfl (fun _ _ => rfl) ?_
                  rw [in_1]
                  refine RT_step (pc2 := 54) rfl (fun _ _ => rfl) ?_
                  refine RT_step (pc2 := 55) rfl (fun _ _ => rfl) ?_
                  refine rt_ico rfl ki_3 ?_
                  refine biF_ge rfl (n_nle (by decide) (by decide)) ?_
                  refine RT_step (pc2 := 60) rfl (fun _ _ => rfl) ?_
                  refine rt_ico rfl ki_5 ?_
                  refine RT_step (pc2 := 62) rfl (fun _ _ => rfl) ?_
                  refine ba_iadd rfl ?_
                  rw [n_add]
                  refine ow_iv1 rfl rfl rfl rfl hlen rfl rfl rfl ((m_isWord (ov_hl hlen) (ov_at rfl (ov_lt hlen (by decide))) hk (by decide)).up (by decide)) rfl ?_
                  refine bcT_eq rfl (b01_f (i6.trans (decide_eq_false (by omega)))) ?_
                  refine RT_step (pc2 := 78) rfl (fun _ _ => rfl) ?_
                  rw [in_1]
                  refine RT_step (pc2 := 54) rfl (fun _ _ => rfl) ?_
                  refine RT_step (pc2 := 55) rfl (fun _ _ => rfl) ?_
                  refine rt_ico rfl ki_3 ?_
                  refine biF_ge rfl (n_nle (by decide) (by decide)) ?_
                  refine RT_step (pc2 := 60) rfl (fun _ _ => rfl) ?_
                  refine rt_ico rfl ki_5 ?_
                  refine RT_step (pc2 := 62) rfl (fun _ _ => rfl) ?_
                  refine ba_iadd rfl ?_
                  rw [n_add]
                  refine ow_iv1 rfl rfl rfl rfl hlen rfl rfl rfl ((m_isWord (ov_hl hlen) (ov_at rfl (ov_lt hlen (by decide))) hk (by decide)).up (by decide)) rfl ?_
                  refine bcT_eq rfl (b01_f (i7.trans (decide_eq_false (by omega)))) ?_
                  refine RT_step (pc2 := 78) rfl (fun _ _ => rfl) ?_
                  rw [in_1]
                  refine RT_step (pc2 := 54) rfl (fun _ _ => rfl) ?_
                  refine RT_step (pc2 := 55) rfl (fun _ _ => rfl) ?_
                  refine rt_ico rfl ki_3 ?_
                  refine biT_ge rfl (n_le (by decide) (by decide)) ?_
                  refine RT_step (pc2 := 82) rfl (fun _ _ => rfl) ?_
                  refine rt_ico rfl ki_1 ?_
                  refine ow_iv1 (l2 := ((180, M) :: (181, mtl ts) :: [(183, ia rd), (188, lng rn), (191, zb on)])) rfl rfl rfl rfl hlen rfl rfl rfl ((hm _ (ov_hl hlen) (ov_at rfl (ov_lt hlen (by decide))) (ov_at rfl (ov_lt hlen (by decide)))).up (by decide)) rfl ?_
                  exact ow_irt rfl rfl rfl
end
section
/-! ===== LINE by LINE (cells from 13 on) ===== -/
theorem cl13_w {H : List AE} (hlen : Nat.ble 204 H.length = true) {bs : List Int32} {T : AE} {P : Nat} {Dn : Nat} {lw : Int32} {cl : Int32} {id : Int32} {gl : Nat} {bo : Nat} {pn : List Int64} {ri : List Int32} {lf : List Int32} {fo : List Int32} {dn : List Int64} {ha : List Int32} {pa : List Int32} {bl : List Int32} {dd : Nat} {q : ev_R} : ∀ (r i : Nat) (arr : List Int32) (L : List (Nat × Value)), i + r = 7 → arr.length = 7 → ev_g L 0 = some (.ref 13) → ev_g L 1 = some (.int (Int32.ofNat i)) → (∀ L2, ev_g L2 0 = some (.ref 13) → RT MM dd 61 56 L2 [] (ov H ((1, T) :: (2, bcl bs) :: [(13, dcl13 P Dn lw cl id gl bo), (14, lng pn), (15, ia ri), (16, ia lf), (17, ia (zl arr r i)), (18, ia fo), (19, lng dn), (20, ia ha), (21, ia pa), (22, ia bl)])) q) → RT MM dd 61 37 L [] (ov H ((1, T) :: (2, bcl bs) :: [(13, dcl13 P Dn lw cl id gl bo), (14, lng pn), (15, ia ri), (16, ia lf), (17, ia arr), (18, ia fo), (19, lng dn), (20, ia ha), (21, ia pa), (22, ia bl)])) q := by
  intro r
  induction r with
  | zero =>
    intro i arr L hi hl l0 l1 h
    have hi : i = 7 := by omega
    subst hi
    refine rt_ild rfl l1 ?_
    refine rt_bip rfl k8_7 ?_
    refine biT_ge rfl (n_le (Nat.le_refl _) (by decide)) ?_
    exact h L l0
  | succ r ih =>
    intro i arr L hi hl l0 l1 h
    refine rt_ild rfl l1 ?_
    refine rt_bip rfl k8_7 ?_
    refine biF_ge rfl (n_nle (by omega) (by decide)) ?_
    refine rt_ald rfl l0 ?_
    refine ow_gf rfl rfl rfl hlen rfl ?_
    refine rt_ild rfl l1 ?_
    refine rt_ico rfl ki_0 ?_
    refine ow_iasN (l2 := ((1, T) :: (2, bcl bs) :: [(13, dcl13 P Dn lw cl id gl bo), (14, lng pn), (15, ia ri), (16, ia lf), (17, ia (arr.set i (Int32.ofNat 0))), (18, ia fo), (19, lng dn), (20, ia ha), (21, ia pa), (22, ia bl)])) rfl rfl (by omega) (by omega) hlen rfl rfl ?_
    refine rt_inc rfl l1 (by decide +kernel) ?_
    rw [in_1]
    refine RT_step (pc2 := 37) rfl (fun _ _ => rfl) ?_
    exact ih (i + 1) _ _ (by omega) (by rw [List.length_set]; exact hl) (gs_o rfl l0 rfl) gs_n h
theorem cl13_f {H : List AE} (hlen : Nat.ble 204 H.length = true) {bs : List Int32} {T : AE} {P : Nat} {Dn : Nat} {lw : Int32} {cl : Int32} {id : Int32} {gl : Nat} {bo : Nat} {pn : List Int64} {ri : List Int32} {lf : List Int32} {wa : List Int32} {dn : List Int64} {ha : List Int32} {pa : List Int32} {bl : List Int32} {dd : Nat} {q : ev_R} : ∀ (r i : Nat) (arr : List Int32) (L : List (Nat × Value)), i + r = 49 → arr.length = 49 → ev_g L 0 = some (.ref 13) → ev_g L 1 = some (.int (Int32.ofNat i)) → (∀ L2, ev_g L2 0 = some (.ref 13) → RT MM dd 61 77 L2 [] (ov H ((1, T) :: (2, bcl bs) :: [(13, dcl13 P Dn lw cl id gl bo), (14, lng pn), (15, ia ri), (16, ia lf), (17, ia wa), (18, ia (zl arr r i)), (19, lng dn), (20, ia ha), (21, ia pa), (22, ia bl)])) q) → RT MM dd 61 58 L [] (ov H ((1, T) :: (2, bcl bs) :: [(13, dcl13 P Dn lw cl id gl bo), (14, lng pn), (15, ia ri), (16, ia lf), (17, ia wa), (18, ia arr), (19, lng dn), (20, ia ha), (21, ia pa), (22, ia bl)])) q := by
  intro r
  induction r with
  | zero =>
    intro i arr L hi hl l0 l1 h
    have hi : i = 49 := by omega
    subst hi
    refine rt_ild rfl l1 ?_
    refine rt_bip rfl k8_49 ?_
    refine biT_ge rfl (n_le (Nat.le_refl _) (by decide)) ?_
    exact h L l0
  | succ r ih =>
    intro i arr L hi hl l0 l1 h
    refine rt_ild rfl l1 ?_
    refine rt_bip rfl k8_49 ?_
    refine biF_ge rfl (n_nle (by omega) (by decide)) ?_
    refine rt_ald rfl l0 ?_
    refine ow_gf rfl rfl rfl hlen rfl ?_
    refine rt_ild rfl l1 ?_
    refine rt_ico rfl ki_0 ?_
    refine ow_iasN (l2 := ((1, T) :: (2, bcl bs) :: [(13, dcl13 P Dn lw cl id gl bo), (14, lng pn), (15, ia ri), (16, ia lf), (17, ia wa), (18, ia (arr.set i (Int32.ofNat 0))), (19, lng dn), (20, ia ha), (21, ia pa), (22, ia bl)])) rfl rfl (by omega) (by omega) hlen rfl rfl ?_
    refine rt_inc rfl l1 (by decide +kernel) ?_
    rw [in_1]
    refine RT_step (pc2 := 58) rfl (fun _ _ => rfl) ?_
    exact ih (i + 1) _ _ (by omega) (by rw [List.length_set]; exact hl) (gs_o rfl l0 rfl) gs_n h
theorem x_clear13 {H : List AE} (hlen : Nat.ble 204 H.length = true) {bs : List Int32} {T : AE} {P : Nat} {Dn : Nat} {lw : Int32} {cl : Int32} {id : Int32} {gl : Nat} {bo : Nat} {pn : List Int64} {ri : List Int32} {lf : List Int32} {wa : List Int32} {fo : List Int32} {dn : List Int64} {ha : List Int32} {pa : List Int32} {bl : List Int32} (l4 : wa.length = 7) (l5 : fo.length = 49) : FR 1 61 [.ref 13] (ov H ((1, T) :: (2, bcl bs) :: [(13, dcl13 P Dn lw cl id gl bo), (14, lng pn), (15, ia ri), (16, ia lf), (17, ia wa), (18, ia fo), (19, lng dn), (20, ia ha), (21, ia pa), (22, ia bl)])) (none, ov (ov H ((1, T) :: (2, bcl bs) :: [(13, dcl13 P Dn lw cl id gl bo), (14, lng pn), (15, ia ri), (16, ia lf), (17, ia wa), (18, ia fo), (19, lng dn), (20, ia ha), (21, ia pa), (22, ia bl)])) ((1, T) :: (2, bcl bs) :: [(13, dcl13 0 0 (Int32.ofNat 0) (Int32.ofNat 0) (Int32.ofNat 0) 0 0), (14, lng pn), (15, ia ri), (16, ia lf), (17, ia (zl wa 7 0)), (18, ia (zl fo 49 0)), (19, lng dn), (20, ia ha), (21, ia pa), (22, ia bl)])) := by
  refine FR_st rfl rfl ?_
  refine RT_step (pc2 := 1) rfl (fun _ _ => rfl) ?_
  refine rt_ico rfl ki_0 ?_
  refine ow_pf rfl rfl rfl rfl rfl hlen rfl rfl ?_
  refine RT_step (pc2 := 6) rfl (fun _ _ => rfl) ?_
  refine rt_ico rfl ki_0 ?_
  refine ow_pf rfl rfl rfl rfl rfl hlen rfl rfl ?_
  refine RT_step (pc2 := 11) rfl (fun _ _ => rfl) ?_
  refine rt_ico rfl ki_0 ?_
  refine ow_pf rfl rfl rfl rfl rfl hlen rfl rfl ?_
  refine RT_step (pc2 := 16) rfl (fun _ _ => rfl) ?_
  refine rt_ico rfl ki_0 ?_
  refine ow_pf rfl rfl rfl rfl rfl hlen rfl rfl ?_
  refine RT_step (pc2 := 21) rfl (fun _ _ => rfl) ?_
  refine rt_ico rfl ki_0 ?_
  refine ow_pf rfl rfl rfl rfl rfl hlen rfl rfl ?_
  refine RT_step (pc2 := 26) rfl (fun _ _ => rfl) ?_
  refine rt_ico rfl ki_0 ?_
  refine ow_pf rfl rfl rfl rfl rfl hlen rfl rfl ?_
  refine RT_step (pc2 := 31) rfl (fun _ _ => rfl) ?_
  refine rt_ico rfl ki_0 ?_
  refine ow_pf rfl rfl rfl rfl rfl hlen rfl rfl ?_
  refine rt_ico rfl ki_0 ?_
  refine RT_step (pc2 := 37) rfl (fun _ _ => rfl) ?_
  refine cl13_w (P := 0) (Dn := 0) (lw := Int32.ofNat 0) (cl := Int32.ofNat 0) (id := Int32.ofNat 0) (gl := 0) (bo := 0) hlen 7 0 wa _ rfl l4 rfl rfl (fun L2 l0 => ?_)
  refine rt_ico rfl ki_0 ?_
  refine rt_ist rfl (by decide +kernel) ?_
  refine cl13_f hlen 49 0 fo _ rfl l5 (gs_o rfl l0 rfl) gs_n (fun L3 l3 => ?_)
  exact ow_ret rfl rfl rfl
theorem x_fill13 {bs : List Int32} {T : AE} {P : Nat} {Dn : Nat} {lw : Int32} {cl : Int32} {id : Int32} {gl : Nat} {bo : Nat} {pn : List Int64} {ri : List Int32} {lf : List Int32} {wa : List Int32} {fo : List Int32} {dn : List Int64} {ha : List Int32} {pa : List Int32} {bl : List Int32} {rd on : List Int32} (o1 : OC lw 10 rd[2]? on[0]?) (o2 : OC cl 3 rd[3]? on[1]?) (o3 : OC id 5 rd[4]? on[2]?) : ∃ v1 v2 v3 : Int32, rd[2]? = some v1 ∧ rd[3]? = some v2 ∧ rd[4]? = some v3 ∧ ∀ H : List AE, Nat.ble 204 H.length = true → FR 1 65 [.ref 13] (ov H ((1, T) :: (2, bcl bs) :: [(13, dcl13 P Dn lw cl id gl bo), (14, lng pn), (15, ia ri), (16, ia lf), (17, ia wa), (18, ia fo), (19, lng dn), (20, ia ha), (21, ia pa), (22, ia bl)])) (none, ov (ov H ((1, T) :: (2, bcl bs) :: [(13, dcl13 P Dn lw cl id gl bo), (14, lng pn), (15, ia ri), (16, ia lf), (17, ia wa), (18, ia fo), (19, lng dn), (20, ia ha), (21, ia pa), (22, ia bl)])) ((1, T) :: (2, bcl bs) :: [(13, dcl13 P Dn v1 v2 v3 gl bo), (14, lng pn), (15, ia ri), (16, ia lf), (17, ia wa), (18, ia fo), (19, lng dn), (20, ia ha), (21, ia pa), (22, ia bl)])) := by
  rcases o1 with ⟨e1, f1, -⟩ | ⟨u1, y1, z1, e1, f1, -⟩ <;> rcases o2 with ⟨e2, f2, -⟩ | ⟨u2, y2, z2, e2, f2, -⟩ <;> rcases o3 with ⟨e3, f3, -⟩ | ⟨u3, y3, z3, e3, f3, -⟩ <;> subst e1 e2 e3 <;> refine ⟨_, _, _, f1, f2, f3, fun H hlen => ?_⟩ <;> refine FR_st rfl rfl ?_
  · refine RT_step (pc2 := 1) rfl (fun _ _ => rfl) ?_
    refine RT_step (pc2 := 2) rfl (fun _ _ => rfl) ?_
    refine ow_gf rfl rfl rfl hlen rfl ?_
    refine bcT_ne rfl rfl ?_
    refine rt_bip rfl k8_10 ?_
    refine RT_step (pc2 := 17) rfl (fun _ _ => rfl) ?_
    refine ow_pf rfl rfl rfl rfl rfl hlen rfl rfl ?_
    refine RT_step (pc2 := 21) rfl (fun _ _ => rfl) ?_
    refine RT_step (pc2 := 22) rfl (fun _ _ => rfl) ?_
    refine ow_gf rfl rfl rfl hlen rfl ?_
    refine bcT_ne rfl rfl ?_
    refine rt_ico rfl ki_3 ?_
    refine RT_step (pc2 := 36) rfl (fun _ _ => rfl) ?_
    refine ow_pf rfl rfl rfl rfl rfl hlen rfl rfl ?_
    refine RT_step (pc2 := 40) rfl (fun _ _ => rfl) ?_
    refine RT_step (pc2 := 41) rfl (fun _ _ => rfl) ?_
    refine ow_gf rfl rfl rfl hlen rfl ?_
    refine bcT_ne rfl rfl ?_
    refine rt_ico rfl ki_5 ?_
    refine RT_step (pc2 := 55) rfl (fun _ _ => rfl) ?_
    refine ow_pf rfl rfl rfl rfl rfl hlen rfl rfl ?_
    exact ow_ret rfl rfl rfl
  · refine RT_step (pc2 := 1) rfl (fun _ _ => rfl) ?_
    refine RT_step (pc2 := 2) rfl (fun _ _ => rfl) ?_
    refine ow_gf rfl rfl rfl hlen rfl ?_
    refine bcT_ne rfl rfl ?_
    refine rt_bip rfl k8_10 ?_
    refine RT_step (pc2 := 17) rfl (fun _ _ => rfl) ?_
    refine ow_pf rfl rfl rfl rfl rfl hlen rfl rfl ?_
    refine RT_step (pc2 := 21) rfl (fun _ _ => rfl) ?_
    refine RT_step (pc2 := 22) rfl (fun _ _ => rfl) ?_
    refine ow_gf rfl rfl rfl hlen rfl ?_
    refine bcT_ne rfl rfl ?_
    refine rt_ico rfl ki_3 ?_
    refine RT_step (pc2 := 36) rfl (fun _ _ => rfl) ?_
    refine ow_pf rfl rfl rfl rfl rfl hlen rfl rfl ?_
    refine RT_step (pc2 := 40) rfl (fun _ _ => rfl) ?_
    refine RT_step (pc2 := 41) rfl (fun _ _ => rfl) ?_
    refine ow_gf rfl rfl rfl hlen rfl ?_
    refine bcF_ne rfl (n_z y3 (by omega)) ?_
    refine RT_step (pc2 := 52) rfl (fun _ _ => rfl) ?_
    refine ow_gf rfl rfl rfl hlen rfl ?_
    refine ow_pf rfl rfl rfl rfl rfl hlen rfl rfl ?_
    exact ow_ret rfl rfl rfl
  · refine RT_step (pc2 := 1) rfl (fun _ _ => rfl) ?_
    refine RT_step (pc2 := 2) rfl (fun _ _ => rfl) ?_
    refine ow_gf rfl rfl rfl hlen rfl ?_
    refine bcT_ne rfl rfl ?_
    refine rt_bip rfl k8_10 ?_
    refine RT_step (pc2 := 17) rfl (fun _ _ => rfl) ?_
    refine ow_pf rfl rfl rfl rfl rfl hlen rfl rfl ?_
    refine RT_step (pc2 := 21) rfl (fun _ _ => rfl) ?_
    refine RT_step (pc2 := 22) rfl (fun _ _ => rfl) ?_
    refine ow_gf rfl rfl rfl hlen rfl ?_
    refine bcF_ne rfl (n_z y2 (by omega)) ?_
    refine RT_step (pc2 := 33) rfl (fun _ _ => rfl) ?_
    refine ow_gf rfl rfl rfl hlen rfl ?_
    refine ow_pf rfl rfl rfl rfl rfl hlen rfl rfl ?_
    refine RT_step (pc2 := 40) rfl (fun _ _ => rfl) ?_
    refine RT_step (pc2 := 41) rfl (fun _ _ => rfl) ?_
    refine ow_gf rfl rfl rfl hlen rfl ?_
    refine bcT_ne rfl rfl ?_
    refine rt_ico rfl ki_5 ?_
    refine RT_step (pc2 := 55) rfl (fun _ _ => rfl) ?_
    refine ow_pf rfl rfl rfl rfl rfl hlen rfl rfl ?_
    exact ow_ret rfl rfl rfl
  · refine RT_step (pc2 := 1) rfl (fun _ _ => rfl) ?_
    refine RT_step (pc2 := 2) rfl (fun _ _ => rfl) ?_
    refine ow_gf rfl rfl rfl hlen rfl ?_
    refine bcT_ne rfl rfl ?_
    refine rt_bip rfl k8_10 ?_
    refine RT_step (pc2 := 17) rfl (fun _ _ => rfl) ?_
    refine ow_pf rfl rfl rfl rfl rfl hlen rfl rfl ?_
    refine RT_step (pc2 := 21) rfl (fun _ _ => rfl) ?_
    refine RT_step (pc2 := 22) rfl (fun _ _ => rfl) ?_
    refine ow_gf rfl rfl rfl hlen rfl ?_
    refine bcF_ne rfl (n_z y2 (by omega)) ?_
    refine RT_step (pc2 := 33) rfl (fun _ _ => rfl) ?_
    refine ow_gf rfl rfl rfl hlen rfl ?_
    refine ow_pf rfl rfl rfl rfl rfl hlen rfl rfl ?_
    refine RT_step (pc2 := 40) rfl (fun _ _ => rfl) ?_
    refine RT_step (pc2 := 41) rfl (fun _ _ => rfl) ?_
    refine ow_gf rfl rfl rfl hlen rfl ?_
    refine bcF_ne rfl (n_z y3 (by omega)) ?_
    refine RT_step (pc2 := 52) rfl (fun _ _ => rfl) ?_
    refine ow_gf rfl rfl rfl hlen rfl ?_
    refine ow_pf rfl rfl rfl rfl rfl hlen rfl rfl ?_
    exact ow_ret rfl rfl rfl
  · refine RT_step (pc2 := 1) rfl (fun _ _ => rfl) ?_
    refine RT_step (pc2 := 2) rfl (fun _ _ => rfl) ?_
    refine ow_gf rfl rfl rfl hlen rfl ?_
    refine bcF_ne rfl (n_z y1 (by omega)) ?_
    refine RT_step (pc2 := 14) rfl (fun _ _ => rfl) ?_
    refine ow_gf rfl rfl rfl hlen rfl ?_
    refine ow_pf rfl rfl rfl rfl rfl hlen rfl rfl ?_
    refine RT_step (pc2 := 21) rfl (fun _ _ => rfl) ?_
    refine RT_step (pc2 := 22) rfl (fun _ _ => rfl) ?_
    refine ow_gf rfl rfl rfl hlen rfl ?_
    refine bcT_ne rfl rfl ?_
    refine rt_ico rfl ki_3 ?_
    refine RT_step (pc2 := 36) rfl (fun _ _ => rfl) ?_
    refine ow_pf rfl rfl rfl rfl rfl hlen rfl rfl ?_
    refine RT_step (pc2 := 40) rfl (fun _ _ => rfl) ?_
    refine RT_step (pc2 := 41) rfl (fun _ _ => rfl) ?_
    refine ow_gf rfl rfl rfl hlen rfl ?_
    refine bcT_ne rfl rfl ?_
    refine rt_ico rfl ki_5 ?_
    refine RT_step (pc2 := 55) rfl (fun _ _ => rfl) ?_
    refine ow_pf rfl rfl rfl rfl rfl hlen rfl rfl ?_
    exact ow_ret rfl rfl rfl
  · refine RT_step (pc2 := 1) rfl (fun _ _ => rfl) ?_
    refine RT_step (pc2 := 2) rfl (fun _ _ => rfl) ?_
    refine ow_gf rfl rfl rfl hlen rfl ?_
    refine bcF_ne rfl (n_z y1 (by omega)) ?_
    refine RT_step (pc2 := 14) rfl (fun _ _ => rfl) ?_
    refine ow_gf rfl rfl rfl hlen rfl ?_
    refine ow_pf rfl rfl rfl rfl rfl hlen rfl rfl ?_
    refine RT_step (pc2 := 21) rfl (fun _ _ => rfl) ?_
    refine RT_step (pc2 := 22) rfl (fun _ _ => rfl) ?_
    refine ow_gf rfl rfl rfl hlen rfl ?_
    refine bcT_ne rfl rfl ?_
    refine rt_ico rfl ki_3 ?_
    refine RT_step (pc2 := 36) rfl (fun _ _ => rfl) ?_
    refine ow_pf rfl rfl rfl rfl rfl hlen rfl rfl ?_
    refine RT_step (pc2 := 40) rfl (fun _ _ => rfl) ?_
    refine RT_step (pc2 := 41) rfl (fun _ _ => rfl) ?_
    refine ow_gf rfl rfl rfl hlen rfl ?_
    refine bcF_ne rfl (n_z y3 (by omega)) ?_
    refine RT_step (pc2 := 52) rfl (fun _ _ => rfl) ?_
    refine ow_gf rfl rfl rfl hlen rfl ?_
    refine ow_pf rfl rfl rfl rfl rfl hlen rfl rfl ?_
    exact ow_ret rfl rfl rfl
  · refine RT_step (pc2 := 1) rfl (fun _ _ => rfl) ?_
    refine RT_step (pc2 := 2) rfl (fun _ _ => rfl) ?_
    refine ow_gf rfl rfl rfl hlen rfl ?_
    refine bcF_ne rfl (n_z y1 (by omega)) ?_
    refine RT_step (pc2 := 14) rfl (fun _ _ => rfl) ?_
    refine ow_gf rfl rfl rfl hlen rfl ?_
    refine ow_pf rfl rfl rfl rfl rfl hlen rfl rfl ?_
    refine RT_step (pc2 := 21) rfl (fun _ _ => rfl) ?_
    refine RT_step (pc2 := 22) rfl (fun _ _ => rfl) ?_
    refine ow_gf rfl rfl rfl hlen rfl ?_
    refine bcF_ne rfl (n_z y2 (by omega)) ?_
    refine RT_step (pc2 := 33) rfl (fun _ _ => rfl) ?_
    refine ow_gf rfl rfl rfl hlen rfl ?_
    refine ow_pf rfl rfl rfl rfl rfl hlen rfl rfl ?_
    refine RT_step (pc2 := 40) rfl (fun _ _ => rfl) ?_
    refine RT_step (pc2 := 41) rfl (fun _ _ => rfl) ?_
    refine ow_gf rfl rfl rfl hlen rfl ?_
    refine bcT_ne rfl rfl ?_
    refine rt_ico rfl ki_5 ?_
    refine RT_step (pc2 := 55) rfl (fun _ _ => rfl) ?_
    refine ow_pf rfl rfl rfl rfl rfl hlen rfl rfl ?_
    exact ow_ret rfl rfl rfl
  · refine RT_step (pc2 := 1) rfl (fun _ _ => rfl) ?_
    refine RT_step (pc2 := 2) rfl (fun _ _ => rfl) ?_
    refine ow_gf rfl rfl rfl hlen rfl ?_
    refine bcF_ne rfl (n_z y1 (by omega)) ?_
    refine RT_step (pc2 := 14) rfl (fun _ _ => rfl) ?_
    refine ow_gf rfl rfl rfl hlen rfl ?_
    refine ow_pf rfl rfl rfl rfl rfl hlen rfl rfl ?_
    refine RT_step (pc2 := 21) rfl (fun _ _ => rfl) ?_
    refine RT_step (pc2 := 22) rfl (fun _ _ => rfl) ?_
    refine ow_gf rfl rfl rfl hlen rfl ?_
    refine bcF_ne rfl (n_z y2 (by omega)) ?_
    refine RT_step (pc2 := 33) rfl (fun _ _ => rfl) ?_
    refine ow_gf rfl rfl rfl hlen rfl ?_
    refine ow_pf rfl rfl rfl rfl rfl hlen rfl rfl ?_
    refine RT_step (pc2 := 40) rfl (fun _ _ => rfl) ?_
    refine RT_step (pc2 := 41) rfl (fun _ _ => rfl) ?_
    refine ow_gf rfl rfl rfl hlen rfl ?_
    refine bcF_ne rfl (n_z y3 (by omega)) ?_
    refine RT_step (pc2 := 52) rfl (fun _ _ => rfl) ?_
    refine ow_gf rfl rfl rfl hlen rfl ?_
    refine ow_pf rfl rfl rfl rfl rfl hlen rfl rfl ?_
    exact ow_ret rfl rfl rfl
theorem ln13 {B : Nat → Nat} {bs ts : List Int32} {n lim : Nat} {pr : List Value} {k a kd pl w : Nat} {le : Int64} {nu tk td fp nm sg qm : Int32} {wd : Int64} {P : Nat} {Dn : Nat} {lw : Int32} {cl : Int32} {id : Int32} {gl : Nat} {bo : Nat} {pn : List Int64} {ri : List Int32} {lf : List Int32} {wa : List Int32} {fo : List Int32} {dn : List Int64} {ha : List Int32} {pa : List Int32} {bl : List Int32} {rd : List Int32} {rn : List Int64} {on : List Int32} {zz : Int32} (hB : BY bs B) (hM : MY ts B) (hb : ∀ i, B i < 256) (hn : n ≤ 940) (hl : lim ≤ 940) (t : TF k n a kd w le nu nm sg wd) (h4 : kd ≠ 4) (d : DR P Dn lw cl id gl bo pn ri lf wa fo dn ha pa bl rd rn on) : (∃ T M D R, FC n lim (pof pr) T M ∧ SH13 D ∧ SHR R ∧ (∀ (H : List AE) (L : List (Nat × Value)) (q : ev_R), Nat.ble 204 H.length = true → ev_g L 0 = some (.ref 13) → ev_g L 1 = some (.ref 1) → ev_g L 2 = some (.int zz) → (∀ L2, ev_g L2 0 = some (.ref 13) → ev_g L2 1 = some (.ref 1) → ev_g L2 2 = some (.int zz) → ev_g L2 3 = some (.int (Int32.ofNat 0)) → RT MM 7 76 139 L2 [] (ov H ((1, T) :: (2, bcl bs) :: D)) q) → RT MM 7 76 34 L [] (ov H ((1, tcl n lim a kd pl w le nu tk (Int32.ofNat 0) fp) :: (2, bcl bs) :: [(13, dcl13 P Dn lw cl id gl bo), (14, lng pn), (15, ia ri), (16, ia lf), (17, ia wa), (18, ia fo), (19, lng dn), (20, ia ha), (21, ia pa), (22, ia bl)])) q) ∧ ∀ H : List AE, Nat.ble 204 H.length = true → FR 7 256 [.ref 180] (ov H ((180, mcl (Int32.ofNat 0) (Int32.ofNat 0) n lim a pl (km kd) nm sg (Int32.ofNat 0) qm wd td (pof pr)) :: (181, mtl ts) :: [(183, ia rd), (188, lng rn), (191, zb on)])) (some (.int (Int32.ofNat 0)), ov (ov H ((180, mcl (Int32.ofNat 0) (Int32.ofNat 0) n lim a pl (km kd) nm sg (Int32.ofNat 0) qm wd td (pof pr)) :: (181, mtl ts) :: [(183, ia rd), (188, lng rn), (191, zb on)])) ((180, M) :: (181, mtl ts) :: R))) ∨ (∃ tk2 td2 T M D R, TC n lim (pof pr) (k + 1) tk2 td2 T M ∧ SD13 D R ∧ (∀ (H : List AE) (L : List (Nat × Value)) (q : ev_R), Nat.ble 204 H.length = true → ev_g L 0 = some (.ref 13) → ev_g L 1 = some (.ref 1) → ev_g L 2 = some (.int zz) → (∀ L2, ev_g L2 0 = some (.ref 13) → ev_g L2 1 = some (.ref 1) → ev_g L2 2 = some (.int zz) → ev_g L2 3 = some (.int (Int32.ofNat 1)) → RT MM 7 76 139 L2 [] (ov H ((1, T) :: (2, bcl bs) :: D)) q) → RT MM 7 76 34 L [] (ov H ((1, tcl n lim a kd pl w le nu tk (Int32.ofNat 0) fp) :: (2, bcl bs) :: [(13, dcl13 P Dn lw cl id gl bo), (14, lng pn), (15, ia ri), (16, ia lf), (17, ia wa), (18, ia fo), (19, lng dn), (20, ia ha), (21, ia pa), (22, ia bl)])) q) ∧ ∀ H : List AE, Nat.ble 204 H.length = true → FR 7 256 [.ref 180] (ov H ((180, mcl (Int32.ofNat 0) (Int32.ofNat 0) n lim a pl (km kd) nm sg (Int32.ofNat 0) qm wd td (pof pr)) :: (181, mtl ts) :: [(183, ia rd), (188, lng rn), (191, zb on)])) (some (.int (Int32.ofNat 1)), ov (ov H ((180, mcl (Int32.ofNat 0) (Int32.ofNat 0) n lim a pl (km kd) nm sg (Int32.ofNat 0) qm wd td (pof pr)) :: (181, mtl ts) :: [(183, ia rd), (188, lng rn), (191, zb on)])) ((180, M) :: (181, mtl ts) :: R))) := by
  have hw := t.2.2.2.2.1
  have hk := (km_is kd t.2.2.2.1).2.2.2.2.2
  have i0 : isW (km kd) wd 0 = decide (w = 2) := w_is t (by decide)
  have i1 : isW (km kd) wd 1 = decide (w = 4) := w_is t (by decide)
  have i3 : isW (km kd) wd 3 = decide (w = 6) := w_is t (by decide)
  have i4 : isW (km kd) wd 4 = decide (w = 7) := w_is t (by decide)
  have i5 : isW (km kd) wd 5 = decide (w = 8) := w_is t (by decide)
  have i6 : isW (km kd) wd 6 = decide (w = 9) := w_is t (by decide)
  have i7 : isW (km kd) wd 7 = decide (w = 10) := w_is t (by decide)
  by_cases cw : w = 2
  · rcases pe13 hB hM hb hn hl (pr := pr) (pl := pl) (tk := tk) (td := td) (fp := fp) (qm := qm) t (w_k1 t (by omega)) d with ⟨T, M, D, R, f, g1, g2, h⟩ | ⟨tk2, td2, T, M, D, R, c, g, h⟩
    · obtain ⟨y0, y1, y2, y3, y4, y5, y6, y7, y8, y9, y10, y11, y12, y13, y14, y15, rfl⟩ := g1
      obtain ⟨y16, y17, y18, rfl⟩ := g2
      refine Or.inl ⟨T, M, [(13, dcl13 y0 y1 y2 y3 y4 y5 y6), (14, lng y7), (15, ia y8), (16, ia y9), (17, ia y10), (18, ia y11), (19, lng y12), (20, ia y13), (21, ia y14), (22, ia y15)], [(183, ia y16), (188, lng y17), (191, zb y18)], f, ⟨_, _, _, _, _, _, _, _, _, _, _, _, _, _, _, _, rfl⟩, ⟨_, _, _, rfl⟩, fun H L q hlen l0 l1 l2 hq => ?_, fun H hlen => ?_⟩
      · refine RT_step (pc2 := 37) rfl (fun _ _ => rfl) ?_
        refine rt_ald rfl l1 ?_
        refine ow_gf rfl rfl rfl hlen rfl ?_
        refine rt_ord rfl hw rfl ?_
        refine rt_isw rfl (v := 1) (by rw [cw]; decide +kernel) ?_
        refine RT_step (pc2 := 88) rfl (fun _ _ => rfl) ?_
        refine rt_ald rfl l0 ?_
        refine rt_ald rfl l1 ?_
        refine ow_iv1 (l2 := ((1, T) :: (2, bcl bs) :: [(13, dcl13 y0 y1 y2 y3 y4 y5 y6), (14, lng y7), (15, ia y8), (16, ia y9), (17, ia y10), (18, ia y11), (19, lng y12), (20, ia y13), (21, ia y14), (22, ia y15)])) rfl rfl rfl rfl hlen rfl rfl rfl ((h.1 H hlen).up (by decide)) rfl ?_
        refine rt_ist rfl (by decide +kernel) ?_
        refine RT_step (pc2 := 139) rfl (fun _ _ => rfl) ?_
        exact hq _ (gs_o rfl l0 rfl) (gs_o rfl l1 rfl) (gs_o rfl l2 rfl) gs_n
      · refine FR_st rfl rfl ?_
        refine RT_step (pc2 := 1) rfl (fun _ _ => rfl) ?_
        refine rt_ico rfl ki_0 ?_
        refine ow_iv1 rfl rfl rfl rfl hlen rfl rfl rfl ((m_isWord (ov_hl hlen) (ov_at rfl (ov_lt hlen (by decide))) hk (by decide)).up (by decide)) rfl ?_
        refine bcF_eq rfl (b01_t (i0.trans (decide_eq_true cw))) ?_
        refine RT_step (pc2 := 9) rfl (fun _ _ => rfl) ?_
        refine ow_iv1 (l2 := ((180, M) :: (181, mtl ts) :: [(183, ia y16), (188, lng y17), (191, zb y18)])) rfl rfl rfl rfl hlen rfl rfl rfl ((h.2 H hlen).up (by decide)) rfl ?_
        exact ow_irt rfl rfl rfl
    · have gg := g
      obtain ⟨y0, y1, y2, y3, y4, y5, y6, y7, y8, y9, y10, y11, y12, y13, y14, y15, y16, y17, y18, rfl, rfl, -⟩ := g
      refine Or.inr ⟨tk2, td2, T, M, _, _, c, gg, fun H L q hlen l0 l1 l2 hq => ?_, fun H hlen => ?_⟩
      · refine RT_step (pc2 := 37) rfl (fun _ _ => rfl) ?_
        refine rt_ald rfl l1 ?_
        refine ow_gf rfl rfl rfl hlen rfl ?_
        refine rt_ord rfl hw rfl ?_
        refine rt_isw rfl (v := 1) (by rw [cw]; decide +kernel) ?_
        refine RT_step (pc2 := 88) rfl (fun _ _ => rfl) ?_
        refine rt_ald rfl l0 ?_
        refine rt_ald rfl l1 ?_
        refine ow_iv1 (l2 := ((1, T) :: (2, bcl bs) :: [(13, dcl13 y0 y1 y2 y3 y4 y5 y6), (14, lng y7), (15, ia y8), (16, ia y9), (17, ia y10), (18, ia y11), (19, lng y12), (20, ia y13), (21, ia y14), (22, ia y15)])) rfl rfl rfl rfl hlen rfl rfl rfl ((h.1 H hlen).up (by decide)) rfl ?_
        refine rt_ist rfl (by decide +kernel) ?_
        refine RT_step (pc2 := 139) rfl (fun _ _ => rfl) ?_
        exact hq _ (gs_o rfl l0 rfl) (gs_o rfl l1 rfl) (gs_o rfl l2 rfl) gs_n
      · refine FR_st rfl rfl ?_
        refine RT_step (pc2 := 1) rfl (fun _ _ => rfl) ?_
        refine rt_ico rfl ki_0 ?_
        refine ow_iv1 rfl rfl rfl rfl hlen rfl rfl rfl ((m_isWord (ov_hl hlen) (ov_at rfl (ov_lt hlen (by decide))) hk (by decide)).up (by decide)) rfl ?_
        refine bcF_eq rfl (b01_t (i0.trans (decide_eq_true cw))) ?_
        refine RT_step (pc2 := 9) rfl (fun _ _ => rfl) ?_
        refine ow_iv1 (l2 := ((180, M) :: (181, mtl ts) :: [(183, ia y16), (188, lng y17), (191, zb y18)])) rfl rfl rfl rfl hlen rfl rfl rfl ((h.2 H hlen).up (by decide)) rfl ?_
        exact ow_irt rfl rfl rfl
  · by_cases cw : w = 4
    · rcases de13 hB hM hb hn hl (pr := pr) (pl := pl) (tk := tk) (td := td) (fp := fp) (qm := qm) t (w_k1 t (by omega)) d with ⟨T, M, D, R, f, g1, g2, h⟩ | ⟨tk2, td2, T, M, D, R, c, g, h⟩
      · obtain ⟨y0, y1, y2, y3, y4, y5, y6, y7, y8, y9, y10, y11, y12, y13, y14, y15, rfl⟩ := g1
        obtain ⟨y16, y17, y18, rfl⟩ := g2
        refine Or.inl ⟨T, M, [(13, dcl13 y0 y1 y2 y3 y4 y5 y6), (14, lng y7), (15, ia y8), (16, ia y9), (17, ia y10), (18, ia y11), (19, lng y12), (20, ia y13), (21, ia y14), (22, ia y15)], [(183, ia y16), (188, lng y17), (191, zb y18)], f, ⟨_, _, _, _, _, _, _, _, _, _, _, _, _, _, _, _, rfl⟩, ⟨_, _, _, rfl⟩, fun H L q hlen l0 l1 l2 hq => ?_, fun H hlen => ?_⟩
        · refine RT_step (pc2 := 37) rfl (fun _ _ => rfl) ?_
          refine rt_ald rfl l1 ?_
          refine ow_gf rfl rfl rfl hlen rfl ?_
          refine rt_ord rfl hw rfl ?_
          refine rt_isw rfl (v := 2) (by rw [cw]; decide +kernel) ?_
          refine RT_step (pc2 := 97) rfl (fun _ _ => rfl) ?_
          refine rt_ald rfl l0 ?_
          refine rt_ald rfl l1 ?_
          refine ow_iv1 (l2 := ((1, T) :: (2, bcl bs) :: [(13, dcl13 y0 y1 y2 y3 y4 y5 y6), (14, lng y7), (15, ia y8), (16, ia y9), (17, ia y10), (18, ia y11), (19, lng y12), (20, ia y13), (21, ia y14), (22, ia y15)])) rfl rfl rfl rfl hlen rfl rfl rfl ((h.1 H hlen).up (by decide)) rfl ?_
          refine rt_ist rfl (by decide +kernel) ?_
          refine RT_step (pc2 := 139) rfl (fun _ _ => rfl) ?_
          exact hq _ (gs_o rfl l0 rfl) (gs_o rfl l1 rfl) (gs_o rfl l2 rfl) gs_n
        · refine FR_st rfl rfl ?_
          refine RT_step (pc2 := 1) rfl (fun _ _ => rfl) ?_
          refine rt_ico rfl ki_0 ?_
          refine ow_iv1 rfl rfl rfl rfl hlen rfl rfl rfl ((m_isWord (ov_hl hlen) (ov_at rfl (ov_lt hlen (by decide))) hk (by decide)).up (by decide)) rfl ?_
          refine bcT_eq rfl (b01_f (i0.trans (decide_eq_false (by omega)))) ?_
          refine RT_step (pc2 := 14) rfl (fun _ _ => rfl) ?_
          refine rt_ico rfl ki_1 ?_
          refine ow_iv1 rfl rfl rfl rfl hlen rfl rfl rfl ((m_isWord (ov_hl hlen) (ov_at rfl (ov_lt hlen (by decide))) hk (by decide)).up (by decide)) rfl ?_
          refine bcF_eq rfl (b01_t (i1.trans (decide_eq_true cw))) ?_
          refine RT_step (pc2 := 22) rfl (fun _ _ => rfl) ?_
          refine ow_iv1 (l2 := ((180, M) :: (181, mtl ts) :: [(183, ia y16), (188, lng y17), (191, zb y18)])) rfl rfl rfl rfl hlen rfl rfl rfl ((h.2 H hlen).up (by decide)) rfl ?_
          exact ow_irt rfl rfl rfl
      · have gg := g
        obtain ⟨y0, y1, y2, y3, y4, y5, y6, y7, y8, y9, y10, y11, y12, y13, y14, y15, y16, y17, y18, rfl, rfl, -⟩ := g
        refine Or.inr ⟨tk2, td2, T, M, _, _, c, gg, fun H L q hlen l0 l1 l2 hq => ?_, fun H hlen => ?_⟩
        · refine RT_step (pc2 := 37) rfl (fun _ _ => rfl) ?_
          refine rt_ald rfl l1 ?_
          refine ow_gf rfl rfl rfl hlen rfl ?_
          refine rt_ord rfl hw rfl ?_
          refine rt_isw rfl (v := 2) (by rw [cw]; decide +kernel) ?_
          refine RT_step (pc2 := 97) rfl (fun _ _ => rfl) ?_
          refine rt_ald rfl l0 ?_
          refine rt_ald rfl l1 ?_
          refine ow_iv1 (l2 := ((1, T) :: (2, bcl bs) :: [(13, dcl13 y0 y1 y2 y3 y4 y5 y6), (14, lng y7), (15, ia y8), (16, ia y9), (17, ia y10), (18, ia y11), (19, lng y12), (20, ia y13), (21, ia y14), (22, ia y15)])) rfl rfl rfl rfl hlen rfl rfl rfl ((h.1 H hlen).up (by decide)) rfl ?_
          refine rt_ist rfl (by decide +kernel) ?_
          refine RT_step (pc2 := 139) rfl (fun _ _ => rfl) ?_
          exact hq _ (gs_o rfl l0 rfl) (gs_o rfl l1 rfl) (gs_o rfl l2 rfl) gs_n
        · refine FR_st rfl rfl ?_
          refine RT_step (pc2 := 1) rfl (fun _ _ => rfl) ?_
          refine rt_ico rfl ki_0 ?_
          refine ow_iv1 rfl rfl rfl rfl hlen rfl rfl rfl ((m_isWord (ov_hl hlen) (ov_at rfl (ov_lt hlen (by decide))) hk (by decide)).up (by decide)) rfl ?_
          refine bcT_eq rfl (b01_f (i0.trans (decide_eq_false (by omega)))) ?_
          refine RT_step (pc2 := 14) rfl (fun _ _ => rfl) ?_
          refine rt_ico rfl ki_1 ?_
          refine ow_iv1 rfl rfl rfl rfl hlen rfl rfl rfl ((m_isWord (ov_hl hlen) (ov_at rfl (ov_lt hlen (by decide))) hk (by decide)).up (by decide)) rfl ?_
          refine bcF_eq rfl (b01_t (i1.trans (decide_eq_true cw))) ?_
          refine RT_step (pc2 := 22) rfl (fun _ _ => rfl) ?_
          refine ow_iv1 (l2 := ((180, M) :: (181, mtl ts) :: [(183, ia y16), (188, lng y17), (191, zb y18)])) rfl rfl rfl rfl hlen rfl rfl rfl ((h.2 H hlen).up (by decide)) rfl ?_
          exact ow_irt rfl rfl rfl
    · by_cases cw : w = 6
      · rcases se13 hB hM hb hn hl (pr := pr) (pl := pl) (tk := tk) (td := td) (fp := fp) (qm := qm) t (w_k1 t (by omega)) d with ⟨T, M, D, R, f, g1, g2, h⟩ | ⟨tk2, td2, T, M, D, R, c, g, h⟩
        · obtain ⟨y0, y1, y2, y3, y4, y5, y6, y7, y8, y9, y10, y11, y12, y13, y14, y15, rfl⟩ := g1
          obtain ⟨y16, y17, y18, rfl⟩ := g2
          refine Or.inl ⟨T, M, [(13, dcl13 y0 y1 y2 y3 y4 y5 y6), (14, lng y7), (15, ia y8), (16, ia y9), (17, ia y10), (18, ia y11), (19, lng y12), (20, ia y13), (21, ia y14), (22, ia y15)], [(183, ia y16), (188, lng y17), (191, zb y18)], f, ⟨_, _, _, _, _, _, _, _, _, _, _, _, _, _, _, _, rfl⟩, ⟨_, _, _, rfl⟩, fun H L q hlen l0 l1 l2 hq => ?_, fun H hlen => ?_⟩
          · refine RT_step (pc2 := 37) rfl (fun _ _ => rfl) ?_
            refine rt_ald rfl l1 ?_
            refine ow_gf rfl rfl rfl hlen rfl ?_
            refine rt_ord rfl hw rfl ?_
            refine rt_isw rfl (v := 3) (by rw [cw]; decide +kernel) ?_
            refine RT_step (pc2 := 106) rfl (fun _ _ => rfl) ?_
            refine rt_ald rfl l0 ?_
            refine rt_ald rfl l1 ?_
            refine ow_iv1 (l2 := ((1, T) :: (2, bcl bs) :: [(13, dcl13 y0 y1 y2 y3 y4 y5 y6), (14, lng y7), (15, ia y8), (16, ia y9), (17, ia y10), (18, ia y11), (19, lng y12), (20, ia y13), (21, ia y14), (22, ia y15)])) rfl rfl rfl rfl hlen rfl rfl rfl ((h.1 H hlen).up (by decide)) rfl ?_
            refine rt_ist rfl (by decide +kernel) ?_
            refine RT_step (pc2 := 139) rfl (fun _ _ => rfl) ?_
            exact hq _ (gs_o rfl l0 rfl) (gs_o rfl l1 rfl) (gs_o rfl l2 rfl) gs_n
          · refine FR_st rfl rfl ?_
            refine RT_step (pc2 := 1) rfl (fun _ _ => rfl) ?_
            refine rt_ico rfl ki_0 ?_
            refine ow_iv1 rfl rfl rfl rfl hlen rfl rfl rfl ((m_isWord (ov_hl hlen) (ov_at rfl (ov_lt hlen (by decide))) hk (by decide)).up (by decide)) rfl ?_
            refine bcT_eq rfl (b01_f (i0.trans (decide_eq_false (by omega)))) ?_
            refine RT_step (pc2 := 14) rfl (fun _ _ => rfl) ?_
            refine rt_ico rfl ki_1 ?_
            refine ow_iv1 rfl rfl rfl rfl hlen rfl rfl rfl ((m_isWord (ov_hl hlen) (ov_at rfl (ov_lt hlen (by decide))) hk (by decide)).up (by decide)) rfl ?_
            refine bcT_eq rfl (b01_f (i1.trans (decide_eq_false (by omega)))) ?_
            refine RT_step (pc2 := 27) rfl (fun _ _ => rfl) ?_
            refine rt_ico rfl ki_3 ?_
            refine ow_iv1 rfl rfl rfl rfl hlen rfl rfl rfl ((m_isWord (ov_hl hlen) (ov_at rfl (ov_lt hlen (by decide))) hk (by decide)).up (by decide)) rfl ?_
            refine bcF_eq rfl (b01_t (i3.trans (decide_eq_true cw))) ?_
            refine RT_step (pc2 := 35) rfl (fun _ _ => rfl) ?_
            refine ow_iv1 (l2 := ((180, M) :: (181, mtl ts) :: [(183, ia y16), (188, lng y17), (191, zb y18)])) rfl rfl rfl rfl hlen rfl rfl rfl ((h.2 H hlen).up (by decide)) rfl ?_
            exact ow_irt rfl rfl rfl
        · have gg := g
          obtain ⟨y0, y1, y2, y3, y4, y5, y6, y7, y8, y9, y10, y11, y12, y13, y14, y15, y16, y17, y18, rfl, rfl, -⟩ := g
          refine Or.inr ⟨tk2, td2, T, M, _, _, c, gg, fun H L q hlen l0 l1 l2 hq => ?_, fun H hlen => ?_⟩
          · refine RT_step (pc2 := 37) rfl (fun _ _ => rfl) ?_
            refine rt_ald rfl l1 ?_
            refine ow_gf rfl rfl rfl hlen rfl ?_
            refine rt_ord rfl hw rfl ?_
            refine rt_isw rfl (v := 3) (by rw [cw]; decide +kernel) ?_
            refine RT_step (pc2 := 106) rfl (fun _ _ => rfl) ?_
            refine rt_ald rfl l0 ?_
            refine rt_ald rfl l1 ?_
            refine ow_iv1 (l2 := ((1, T) :: (2, bcl bs) :: [(13, dcl13 y0 y1 y2 y3 y4 y5 y6), (14, lng y7), (15, ia y8), (16, ia y9), (17, ia y10), (18, ia y11), (19, lng y12), (20, ia y13), (21, ia y14), (22, ia y15)])) rfl rfl rfl rfl hlen rfl rfl rfl ((h.1 H hlen).up (by decide)) rfl ?_
            refine rt_ist rfl (by decide +kernel) ?_
            refine RT_step (pc2 := 139) rfl (fun _ _ => rfl) ?_
            exact hq _ (gs_o rfl l0 rfl) (gs_o rfl l1 rfl) (gs_o rfl l2 rfl) gs_n
          · refine FR_st rfl rfl ?_
            refine RT_step (pc2 := 1) rfl (fun _ _ => rfl) ?_
            refine rt_ico rfl ki_0 ?_
            refine ow_iv1 rfl rfl rfl rfl hlen rfl rfl rfl ((m_isWord (ov_hl hlen) (ov_at rfl (ov_lt hlen (by decide))) hk (by decide)).up (by decide)) rfl ?_
            refine bcT_eq rfl (b01_f (i0.trans (decide_eq_false (by omega)))) ?_
            refine RT_step (pc2 := 14) rfl (fun _ _ => rfl) ?_
            refine rt_ico rfl ki_1 ?_
            refine ow_iv1 rfl rfl rfl rfl hlen rfl rfl rfl ((m_isWord (ov_hl hlen) (ov_at rfl (ov_lt hlen (by decide))) hk (by decide)).up (by decide)) rfl ?_
            refine bcT_eq rfl (b01_f (i1.trans (decide_eq_false (by omega)))) ?_
            refine RT_step (pc2 := 27) rfl (fun _ _ => rfl) ?_
            refine rt_ico rfl ki_3 ?_
            refine ow_iv1 rfl rfl rfl rfl hlen rfl rfl rfl ((m_isWord (ov_hl hlen) (ov_at rfl (ov_lt hlen (by decide))) hk (by decide)).up (by decide)) rfl ?_
            refine bcF_eq rfl (b01_t (i3.trans (decide_eq_true cw))) ?_
            refine RT_step (pc2 := 35) rfl (fun _ _ => rfl) ?_
            refine ow_iv1 (l2 := ((180, M) :: (181, mtl ts) :: [(183, ia y16), (188, lng y17), (191, zb y18)])) rfl rfl rfl rfl hlen rfl rfl rfl ((h.2 H hlen).up (by decide)) rfl ?_
            exact ow_irt rfl rfl rfl
      · by_cases cw : w = 7
        · rcases fo13 hB hM hb hn hl (pr := pr) (pl := pl) (tk := tk) (td := td) (fp := fp) (qm := qm) t (w_k1 t (by omega)) d with ⟨T, M, D, R, f, g1, g2, h⟩ | ⟨tk2, td2, T, M, D, R, c, g, h⟩
          · obtain ⟨y0, y1, y2, y3, y4, y5, y6, y7, y8, y9, y10, y11, y12, y13, y14, y15, rfl⟩ := g1
            obtain ⟨y16, y17, y18, rfl⟩ := g2
            refine Or.inl ⟨T, M, [(13, dcl13 y0 y1 y2 y3 y4 y5 y6), (14, lng y7), (15, ia y8), (16, ia y9), (17, ia y10), (18, ia y11), (19, lng y12), (20, ia y13), (21, ia y14), (22, ia y15)], [(183, ia y16), (188, lng y17), (191, zb y18)], f, ⟨_, _, _, _, _, _, _, _, _, _, _, _, _, _, _, _, rfl⟩, ⟨_, _, _, rfl⟩, fun H L q hlen l0 l1 l2 hq => ?_, fun H hlen => ?_⟩
            · refine RT_step (pc2 := 37) rfl (fun _ _ => rfl) ?_
              refine rt_ald rfl l1 ?_
              refine ow_gf rfl rfl rfl hlen rfl ?_
              refine rt_ord rfl hw rfl ?_
              refine rt_isw rfl (v := 4) (by rw [cw]; decide +kernel) ?_
              refine RT_step (pc2 := 115) rfl (fun _ _ => rfl) ?_
              refine rt_ald rfl l0 ?_
              refine rt_ald rfl l1 ?_
              refine ow_iv1 (l2 := ((1, T) :: (2, bcl bs) :: [(13, dcl13 y0 y1 y2 y3 y4 y5 y6), (14, lng y7), (15, ia y8), (16, ia y9), (17, ia y10), (18, ia y11), (19, lng y12), (20, ia y13), (21, ia y14), (22, ia y15)])) rfl rfl rfl rfl hlen rfl rfl rfl ((h.1 H hlen).up (by decide)) rfl ?_
              refine rt_ist rfl (by decide +kernel) ?_
              refine RT_step (pc2 := 139) rfl (fun _ _ => rfl) ?_
              exact hq _ (gs_o rfl l0 rfl) (gs_o rfl l1 rfl) (gs_o rfl l2 rfl) gs_n
            · refine FR_st rfl rfl ?_
              refine RT_step (pc2 := 1) rfl (fun _ _ => rfl) ?_
              refine rt_ico rfl ki_0 ?_
              refine ow_iv1 rfl rfl rfl rfl hlen rfl rfl rfl ((m_isWord (ov_hl hlen) (ov_at rfl (ov_lt hlen (by decide))) hk (by decide)).up (by decide)) rfl ?_
              refine bcT_eq rfl (b01_f (i0.trans (decide_eq_false (by omega)))) ?_
              refine RT_step (pc2 := 14) rfl (fun _ _ => rfl) ?_
              refine rt_ico rfl ki_1 ?_
              refine ow_iv1 rfl rfl rfl rfl hlen rfl rfl rfl ((m_isWord (ov_hl hlen) (ov_at rfl (ov_lt hlen (by decide))) hk (by decide)).up (by decide)) rfl ?_
              refine bcT_eq rfl (b01_f (i1.trans (decide_eq_false (by omega)))) ?_
              refine RT_step (pc2 := 27) rfl (fun _ _ => rfl) ?_
              refine rt_ico rfl ki_3 ?_
              refine ow_iv1 rfl rfl rfl rfl hlen rfl rfl rfl ((m_isWord (ov_hl hlen) (ov_at rfl (ov_lt hlen (by decide))) hk (by decide)).up (by decide)) rfl ?_
              refine bcT_eq rfl (b01_f (i3.trans (decide_eq_false (by omega)))) ?_
              refine RT_step (pc2 := 40) rfl (fun _ _ => rfl) ?_
              refine rt_ico rfl ki_4 ?_
              refine ow_iv1 rfl rfl rfl rfl hlen rfl rfl rfl ((m_isWord (ov_hl hlen) (ov_at rfl (ov_lt hlen (by decide))) hk (by decide)).up (by decide)) rfl ?_
              refine bcF_eq rfl (b01_t (i4.trans (decide_eq_true cw))) ?_
              refine RT_step (pc2 := 48) rfl (fun _ _ => rfl) ?_
              refine ow_iv1 (l2 := ((180, M) :: (181, mtl ts) :: [(183, ia y16), (188, lng y17), (191, zb y18)])) rfl rfl rfl rfl hlen rfl rfl rfl ((h.2 H hlen).up (by decide)) rfl ?_
              exact ow_irt rfl rfl rfl
          · have gg := g
            obtain ⟨y0, y1, y2, y3, y4, y5, y6, y7, y8, y9, y10, y11, y12, y13, y14, y15, y16, y17, y18, rfl, rfl, -⟩ := g
            refine Or.inr ⟨tk2, td2, T, M, _, _, c, gg, fun H L q hlen l0 l1 l2 hq => ?_, fun H hlen => ?_⟩
            · refine RT_step (pc2 := 37) rfl (fun _ _ => rfl) ?_
              refine rt_ald rfl l1 ?_
              refine ow_gf rfl rfl rfl hlen rfl ?_
              refine rt_ord rfl hw rfl ?_
              refine rt_isw rfl (v := 4) (by rw [cw]; decide +kernel) ?_
              refine RT_step (pc2 := 115) rfl (fun _ _ => rfl) ?_
              refine rt_ald rfl l0 ?_
              refine rt_ald rfl l1 ?_
              refine ow_iv1 (l2 := ((1, T) :: (2, bcl bs) :: [(13, dcl13 y0 y1 y2 y3 y4 y5 y6), (14, lng y7), (15, ia y8), (16, ia y9), (17, ia y10), (18, ia y11), (19, lng y12), (20, ia y13), (21, ia y14), (22, ia y15)])) rfl rfl rfl rfl hlen rfl rfl rfl ((h.1 H hlen).up (by decide)) rfl ?_
              refine rt_ist rfl (by decide +kernel) ?_
              refine RT_step (pc2 := 139) rfl (fun _ _ => rfl) ?_
              exact hq _ (gs_o rfl l0 rfl) (gs_o rfl l1 rfl) (gs_o rfl l2 rfl) gs_n
            · refine FR_st rfl rfl ?_
              refine RT_step (pc2 := 1) rfl (fun _ _ => rfl) ?_
              refine rt_ico rfl ki_0 ?_
              refine ow_iv1 rfl rfl rfl rfl hlen rfl rfl rfl ((m_isWord (ov_hl hlen) (ov_at rfl (ov_lt hlen (by decide))) hk (by decide)).up (by decide)) rfl ?_
              refine bcT_eq rfl (b01_f (i0.trans (decide_eq_false (by omega)))) ?_
              refine RT_step (pc2 := 14) rfl (fun _ _ => rfl) ?_
              refine rt_ico rfl ki_1 ?_
              refine ow_iv1 rfl rfl rfl rfl hlen rfl rfl rfl ((m_isWord (ov_hl hlen) (ov_at rfl (ov_lt hlen (by decide))) hk (by decide)).up (by decide)) rfl ?_
              refine bcT_eq rfl (b01_f (i1.trans (decide_eq_false (by omega)))) ?_
              refine RT_step (pc2 := 27) rfl (fun _ _ => rfl) ?_
              refine rt_ico rfl ki_3 ?_
              refine ow_iv1 rfl rfl rfl rfl hlen rfl rfl rfl ((m_isWord (ov_hl hlen) (ov_at rfl (ov_lt hlen (by decide))) hk (by decide)).up (by decide)) rfl ?_
              refine bcT_eq rfl (b01_f (i3.trans (decide_eq_false (by omega)))) ?_
              refine RT_step (pc2 := 40) rfl (fun _ _ => rfl) ?_
              refine rt_ico rfl ki_4 ?_
              refine ow_iv1 rfl rfl rfl rfl hlen rfl rfl rfl ((m_isWord (ov_hl hlen) (ov_at rfl (ov_lt hlen (by decide))) hk (by decide)).up (by decide)) rfl ?_
              refine bcF_eq rfl (b01_t (i4.trans (decide_eq_true cw))) ?_
              refine RT_step (pc2 := 48) rfl (fun _ _ => rfl) ?_
              refine ow_iv1 (l2 := ((180, M) :: (181, mtl ts) :: [(183, ia y16), (188, lng y17), (191, zb y18)])) rfl rfl rfl rfl hlen rfl rfl rfl ((h.2 H hlen).up (by decide)) rfl ?_
              exact ow_irt rfl rfl rfl
        · by_cases cw : w = 8
          · rcases on13_0 hB hM hb hn hl (pr := pr) (pl := pl) (tk := tk) (td := td) (fp := fp) (qm := qm) t cw d with ⟨T, M, D, R, f, g1, g2, h⟩ | ⟨tk2, td2, T, M, D, R, c, g, h⟩
            · obtain ⟨y0, y1, y2, y3, y4, y5, y6, y7, y8, y9, y10, y11, y12, y13, y14, y15, rfl⟩ := g1
              obtain ⟨y16, y17, y18, rfl⟩ := g2
              refine Or.inl ⟨T, M, [(13, dcl13 y0 y1 y2 y3 y4 y5 y6), (14, lng y7), (15, ia y8), (16, ia y9), (17, ia y10), (18, ia y11), (19, lng y12), (20, ia y13), (21, ia y14), (22, ia y15)], [(183, ia y16), (188, lng y17), (191, zb y18)], f, ⟨_, _, _, _, _, _, _, _, _, _, _, _, _, _, _, _, rfl⟩, ⟨_, _, _, rfl⟩, fun H L q hlen l0 l1 l2 hq => ?_, fun H hlen => ?_⟩
              · refine RT_step (pc2 := 37) rfl (fun _ _ => rfl) ?_
                refine rt_ald rfl l1 ?_
                refine ow_gf rfl rfl rfl hlen rfl ?_
                refine rt_ord rfl hw rfl ?_
                refine rt_isw rfl (v := 5) (by rw [cw]; decide +kernel) ?_
                refine RT_step (pc2 := 124) rfl (fun _ _ => rfl) ?_
                refine rt_ald rfl l0 ?_
                refine rt_ald rfl l1 ?_
                refine ow_iv1 (l2 := ((1, T) :: (2, bcl bs) :: [(13, dcl13 y0 y1 y2 y3 y4 y5 y6), (14, lng y7), (15, ia y8), (16, ia y9), (17, ia y10), (18, ia y11), (19, lng y12), (20, ia y13), (21, ia y14), (22, ia y15)])) rfl rfl rfl rfl hlen rfl rfl rfl ((h.1 H hlen).up (by decide)) rfl ?_
                refine rt_ist rfl (by decide +kernel) ?_
                refine RT_step (pc2 := 139) rfl (fun _ _ => rfl) ?_
                exact hq _ (gs_o rfl l0 rfl) (gs_o rfl l1 rfl) (gs_o rfl l2 rfl) gs_n
              · refine FR_st rfl rfl ?_
                refine RT_step (pc2 := 1) rfl (fun _ _ => rfl) ?_
                refine rt_ico rfl ki_0 ?_
                refine ow_iv1 rfl rfl rfl rfl hlen rfl rfl rfl ((m_isWord (ov_hl hlen) (ov_at rfl (ov_lt hlen (by decide))) hk (by decide)).up (by decide)) rfl ?_
                refine bcT_eq rfl (b01_f (i0.trans (decide_eq_false (by omega)))) ?_
                refine RT_step (pc2 := 14) rfl (fun _ _ => rfl) ?_
                refine rt_ico rfl ki_1 ?_
                refine ow_iv1 rfl rfl rfl rfl hlen rfl rfl rfl ((m_isWord (ov_hl hlen) (ov_at rfl (ov_lt hlen (by decide))) hk (by decide)).up (by decide)) rfl ?_
                refine bcT_eq rfl (b01_f (i1.trans (decide_eq_false (by omega)))) ?_
                refine RT_step (pc2 := 27) rfl (fun _ _ => rfl) ?_
                refine rt_ico rfl ki_3 ?_
                refine ow_iv1 rfl rfl rfl rfl hlen rfl rfl rfl ((m_isWord (ov_hl hlen) (ov_at rfl (ov_lt hlen (by decide))) hk (by decide)).up (by decide)) rfl ?_
                refine bcT_eq rfl (b01_f (i3.trans (decide_eq_false (by omega)))) ?_
                refine RT_step (pc2 := 40) rfl (fun _ _ => rfl) ?_
                refine rt_ico rfl ki_4 ?_
                refine ow_iv1 rfl rfl rfl rfl hlen rfl rfl rfl ((m_isWord (ov_hl hlen) (ov_at rfl (ov_lt hlen (by decide))) hk (by decide)).up (by decide)) rfl ?_
                refine bcT_eq rfl (b01_f (i4.trans (decide_eq_false (by omega)))) ?_
                refine rt_ico rfl ki_0 ?_
                refine RT_step (pc2 := 54) rfl (fun _ _ => rfl) ?_
                refine RT_step (pc2 := 55) rfl (fun _ _ => rfl) ?_
                refine rt_ico rfl ki_3 ?_
                refine biF_ge rfl (n_nle (by decide) (by decide)) ?_
                refine RT_step (pc2 := 60) rfl (fun _ _ => rfl) ?_
                refine rt_ico rfl ki_5 ?_
                refine RT_step (pc2 := 62) rfl (fun _ _ => rfl) ?_
                refine ba_iadd rfl ?_
                rw [n_add]
                refine ow_iv1 rfl rfl rfl rfl hlen rfl rfl rfl ((m_isWord (ov_hl hlen) (ov_at rfl (ov_lt hlen (by decide))) hk (by decide)).up (by decide)) rfl ?_
                refine bcF_eq rfl (b01_t (i5.trans (decide_eq_true cw))) ?_
                refine RT_step (pc2 := 70) rfl (fun _ _ => rfl) ?_
                refine RT_step (pc2 := 71) rfl (fun _ _ => rfl) ?_
                refine ow_iv1 (l2 := ((180, M) :: (181, mtl ts) :: [(183, ia y16), (188, lng y17), (191, zb y18)])) rfl rfl rfl rfl hlen rfl rfl rfl ((h.2 H hlen).up (by decide)) rfl ?_
                exact ow_irt rfl rfl rfl
            · have gg := g
              obtain ⟨y0, y1, y2, y3, y4, y5, y6, y7, y8, y9, y10, y11, y12, y13, y14, y15, y16, y17, y18, rfl, rfl, -⟩ := g
              refine Or.inr ⟨tk2, td2, T, M, _, _, c, gg, fun H L q hlen l0 l1 l2 hq => ?_, fun H hlen => ?_⟩
              · refine RT_step (pc2 := 37) rfl (fun _ _ => rfl) ?_
                refine rt_ald rfl l1 ?_
                refine ow_gf rfl rfl rfl hlen rfl ?_
                refine rt_ord rfl hw rfl ?_
                refine rt_isw rfl (v := 5) (by rw [cw]; decide +kernel) ?_
                refine RT_step (pc2 := 124) rfl (fun _ _ => rfl) ?_
                refine rt_ald rfl l0 ?_
                refine rt_ald rfl l1 ?_
                refine ow_iv1 (l2 := ((1, T) :: (2, bcl bs) :: [(13, dcl13 y0 y1 y2 y3 y4 y5 y6), (14, lng y7), (15, ia y8), (16, ia y9), (17, ia y10), (18, ia y11), (19, lng y12), (20, ia y13), (21, ia y14), (22, ia y15)])) rfl rfl rfl rfl hlen rfl rfl rfl ((h.1 H hlen).up (by decide)) rfl ?_
                refine rt_ist rfl (by decide +kernel) ?_
                refine RT_step (pc2 := 139) rfl (fun _ _ => rfl) ?_
                exact hq _ (gs_o rfl l0 rfl) (gs_o rfl l1 rfl) (gs_o rfl l2 rfl) gs_n
              · refine FR_st rfl rfl ?_
                refine RT_step (pc2 := 1) rfl (fun _ _ => rfl) ?_
                refine rt_ico rfl ki_0 ?_
                refine ow_iv1 rfl rfl rfl rfl hlen rfl rfl rfl ((m_isWord (ov_hl hlen) (ov_at rfl (ov_lt hlen (by decide))) hk (by decide)).up (by decide)) rfl ?_
                refine bcT_eq rfl (b01_f (i0.trans (decide_eq_false (by omega)))) ?_
                refine RT_step (pc2 := 14) rfl (fun _ _ => rfl) ?_
                refine rt_ico rfl ki_1 ?_
                refine ow_iv1 rfl rfl rfl rfl hlen rfl rfl rfl ((m_isWord (ov_hl hlen) (ov_at rfl (ov_lt hlen (by decide))) hk (by decide)).up (by decide)) rfl ?_
                refine bcT_eq rfl (b01_f (i1.trans (decide_eq_false (by omega)))) ?_
                refine RT_step (pc2 := 27) rfl (fun _ _ => rfl) ?_
                refine rt_ico rfl ki_3 ?_
                refine ow_iv1 rfl rfl rfl rfl hlen rfl rfl rfl ((m_isWord (ov_hl hlen) (ov_at rfl (ov_lt hlen (by decide))) hk (by decide)).up (by decide)) rfl ?_
                refine bcT_eq rfl (b01_f (i3.trans (decide_eq_false (by omega)))) ?_
                refine RT_step (pc2 := 40) rfl (fun _ _ => rfl) ?_
                refine rt_ico rfl ki_4 ?_
                refine ow_iv1 rfl rfl rfl rfl hlen rfl rfl rfl ((m_isWord (ov_hl hlen) (ov_at rfl (ov_lt hlen (by decide))) hk (by decide)).up (by decide)) rfl ?_
                refine bcT_eq rfl (b01_f (i4.trans (decide_eq_false (by omega)))) ?_
                refine rt_ico rfl ki_0 ?_
                refine RT_step (pc2 := 54) rfl (fun _ _ => rfl) ?_
                refine RT_step (pc2 := 55) rfl (fun _ _ => rfl) ?_
                refine rt_ico rfl ki_3 ?_
                refine biF_ge rfl (n_nle (by decide) (by decide)) ?_
                refine RT_step (pc2 := 60) rfl (fun _ _ => rfl) ?_
                refine rt_ico rfl ki_5 ?_
                refine RT_step (pc2 := 62) rfl (fun _ _ => rfl) ?_
                refine ba_iadd rfl ?_
                rw [n_add]
                refine ow_iv1 rfl rfl rfl rfl hlen rfl rfl rfl ((m_isWord (ov_hl hlen) (ov_at rfl (ov_lt hlen (by decide))) hk (by decide)).up (by decide)) rfl ?_
                refine bcF_eq rfl (b01_t (i5.trans (decide_eq_true cw))) ?_
                refine RT_step (pc2 := 70) rfl (fun _ _ => rfl) ?_
                refine RT_step (pc2 := 71) rfl (fun _ _ => rfl) ?_
                refine ow_iv1 (l2 := ((180, M) :: (181, mtl ts) :: [(183, ia y16), (188, lng y17), (191, zb y18)])) rfl rfl rfl rfl hlen rfl rfl rfl ((h.2 H hlen).up (by decide)) rfl ?_
                exact ow_irt rfl rfl rfl
          · by_cases cw : w = 9
            · rcases on13_1 hB hM hb hn hl (pr := pr) (pl := pl) (tk := tk) (td := td) (fp := fp) (qm := qm) t cw d with ⟨T, M, D, R, f, g1, g2, h⟩ | ⟨tk2, td2, T, M, D, R, c, g, h⟩
              · obtain ⟨y0, y1, y2, y3, y4, y5, y6, y7, y8, y9, y10, y11, y12, y13, y14, y15, rfl⟩ := g1
                obtain ⟨y16, y17, y18, rfl⟩ := g2
                refine Or.inl ⟨T, M, [(13, dcl13 y0 y1 y2 y3 y4 y5 y6), (14, lng y7), (15, ia y8), (16, ia y9), (17, ia y10), (18, ia y11), (19, lng y12), (20, ia y13), (21, ia y14), (22, ia y15)], [(183, ia y16), (188, lng y17), (191, zb y18)], f, ⟨_, _, _, _, _, _, _, _, _, _, _, _, _, _, _, _, rfl⟩, ⟨_, _, _, rfl⟩, fun H L q hlen l0 l1 l2 hq => ?_, fun H hlen => ?_⟩
                · refine RT_step (pc2 := 37) rfl (fun _ _ => rfl) ?_
                  refine rt_ald rfl l1 ?_
                  refine ow_gf rfl rfl rfl hlen rfl ?_
                  refine rt_ord rfl hw rfl ?_
                  refine rt_isw rfl (v := 6) (by rw [cw]; decide +kernel) ?_
                  refine RT_step (pc2 := 124) rfl (fun _ _ => rfl) ?_
                  refine rt_ald rfl l0 ?_
                  refine rt_ald rfl l1 ?_
                  refine ow_iv1 (l2 := ((1, T) :: (2, bcl bs) :: [(13, dcl13 y0 y1 y2 y3 y4 y5 y6), (14, lng y7), (15, ia y8), (16, ia y9), (17, ia y10), (18, ia y11), (19, lng y12), (20, ia y13), (21, ia y14), (22, ia y15)])) rfl rfl rfl rfl hlen rfl rfl rfl ((h.1 H hlen).up (by decide)) rfl ?_
                  refine rt_ist rfl (by decide +kernel) ?_
                  refine RT_step (pc2 := 139) rfl (fun _ _ => rfl) ?_
                  exact hq _ (gs_o rfl l0 rfl) (gs_o rfl l1 rfl) (gs_o rfl l2 rfl) gs_n
                · refine FR_st rfl rfl ?_
                  refine RT_step (pc2 := 1) rfl (fun _ _ => rfl) ?_
                  refine rt_ico rfl ki_0 ?_
                  refine ow_iv1 rfl rfl rfl rfl hlen rfl rfl rfl ((m_isWord (ov_hl hlen) (ov_at rfl (ov_lt hlen (by decide))) hk (by decide)).up (by decide)) rfl ?_
                  refine bcT_eq rfl (b01_f (i0.trans (decide_eq_false (by omega)))) ?_
                  refine RT_step (pc2 := 14) rfl (fun _ _ => rfl) ?_
                  refine rt_ico rfl ki_1 ?_
                  refine ow_iv1 rfl rfl rfl rfl hlen rfl rfl rfl ((m_isWord (ov_hl hlen) (ov_at rfl (ov_lt hlen (by decide))) hk (by decide)).up (by decide)) rfl ?_
                  refine bcT_eq rfl (b01_f (i1.trans (decide_eq_false (by omega)))) ?_
                  refine RT_step (pc2 := 27) rfl (fun _ _ => rfl) ?_
                  refine rt_ico rfl ki_3 ?_
                  refine ow_iv1 rfl rfl rfl rfl hlen rfl rfl rfl ((m_isWord (ov_hl hlen) (ov_at rfl (ov_lt hlen (by decide))) hk (by decide)).up (by decide)) rfl ?_
                  refine bcT_eq rfl (b01_f (i3.trans (decide_eq_false (by omega)))) ?_
                  refine RT_step (pc2 := 40) rfl (fun _ _ => rfl) ?_
                  refine rt_ico rfl ki_4 ?_
                  refine ow_iv1 rfl rfl rfl rfl hlen rfl rfl rfl ((m_isWord (ov_hl hlen) (ov_at rfl (ov_lt hlen (by decide))) hk (by decide)).up (by decide)) rfl ?_
                  refine bcT_eq rfl (b01_f (i4.trans (decide_eq_false (by omega)))) ?_
                  refine rt_ico rfl ki_0 ?_
                  refine RT_step (pc2 := 54) rfl (fun _ _ => rfl) ?_
                  refine RT_step (pc2 := 55) rfl (fun _ _ => rfl) ?_
                  refine rt_ico rfl ki_3 ?_
                  refine biF_ge rfl (n_nle (by decide) (by decide)) ?_
                  refine RT_step (pc2 := 60) rfl (fun _ _ => rfl) ?_
                  refine rt_ico rfl ki_5 ?_
                  refine RT_step (pc2 := 62) rfl (fun _ _ => rfl) ?_
                  refine ba_iadd rfl ?_
                  rw [n_add]
                  refine ow_iv1 rfl rfl rfl rfl hlen rfl rfl rfl ((m_isWord (ov_hl hlen) (ov_at rfl (ov_lt hlen (by decide))) hk (by decide)).up (by decide)) rfl ?_
                  refine bcT_eq rfl (b01_f (i5.trans (decide_eq_false (by omega)))) ?_
                  refine RT_step (pc2 := 78) rfl (fun _ _ => rfl) ?_
                  rw [in_1]
                  refine RT_step (pc2 := 54) rfl (fun _ _ => rfl) ?_
                  refine RT_step (pc2 := 55) rfl (fun _ _ => rfl) ?_
                  refine rt_ico rfl ki_3 ?_
                  refine biF_ge rfl (n_nle (by decide) (by decide)) ?_
                  refine RT_step (pc2 := 60) rfl (fun _ _ => rfl) ?_
                  refine rt_ico rfl ki_5 ?_
                  refine RT_step (pc2 := 62) rfl (fun _ _ => rfl) ?_
                  refine ba_iadd rfl ?_
                  rw [n_add]
                  refine ow_iv1 rfl rfl rfl rfl hlen rfl rfl rfl ((m_isWord (ov_hl hlen) (ov_at rfl (ov_lt hlen (by decide))) hk (by decide)).up (by decide)) rfl ?_
                  refine bcF_eq rfl (b01_t (i6.trans (decide_eq_true cw))) ?_
                  refine RT_step (pc2 := 70) rfl (fun _ _ => rfl) ?_
                  refine RT_step (pc2 := 71) rfl (fun _ _ => rfl) ?_
                  refine ow_iv1 (l2 := ((180, M) :: (181, mtl ts) :: [(183, ia y16), (188, lng y17), (191, zb y18)])) rfl rfl rfl rfl hlen rfl rfl rfl ((h.2 H hlen).up (by decide)) rfl ?_
                  exact ow_irt rfl rfl rfl
              · have gg := g
                obtain ⟨y0, y1, y2, y3, y4, y5, y6, y7, y8, y9, y10, y11, y12, y13, y14, y15, y16, y17, y18, rfl, rfl, -⟩ := g
                refine Or.inr ⟨tk2, td2, T, M, _, _, c, gg, fun H L q hlen l0 l1 l2 hq => ?_, fun H hlen => ?_⟩
                · refine RT_step (pc2 := 37) rfl (fun _ _ => rfl) ?_
                  refine rt_ald rfl l1 ?_
                  refine ow_gf rfl rfl rfl hlen rfl ?_
                  refine rt_ord rfl hw rfl ?_
                  refine rt_isw rfl (v := 6) (by rw [cw]; decide +kernel) ?_
                  refine RT_step (pc2 := 124) rfl (fun _ _ => rfl) ?_
                  refine rt_ald rfl l0 ?_
                  refine rt_ald rfl l1 ?_
                  refine ow_iv1 (l2 := ((1, T) :: (2, bcl bs) :: [(13, dcl13 y0 y1 y2 y3 y4 y5 y6), (14, lng y7), (15, ia y8), (16, ia y9), (17, ia y10), (18, ia y11), (19, lng y12), (20, ia y13), (21, ia y14), (22, ia y15)])) rfl rfl rfl rfl hlen rfl rfl rfl ((h.1 H hlen).up (by decide)) rfl ?_
                  refine rt_ist rfl (by decide +kernel) ?_
                  refine RT_step (pc2 := 139) rfl (fun _ _ => rfl) ?_
                  exact hq _ (gs_o rfl l0 rfl) (gs_o rfl l1 rfl) (gs_o rfl l2 rfl) gs_n
                · refine FR_st rfl rfl ?_
                  refine RT_step (pc2 := 1) rfl (fun _ _ => rfl) ?_
                  refine rt_ico rfl ki_0 ?_
                  refine ow_iv1 rfl rfl rfl rfl hlen rfl rfl rfl ((m_isWord (ov_hl hlen) (ov_at rfl (ov_lt hlen (by decide))) hk (by decide)).up (by decide)) rfl ?_
                  refine bcT_eq rfl (b01_f (i0.trans (decide_eq_false (by omega)))) ?_
                  refine RT_step (pc2 := 14) rfl (fun _ _ => rfl) ?_
                  refine rt_ico rfl ki_1 ?_
                  refine ow_iv1 rfl rfl rfl rfl hlen rfl rfl rfl ((m_isWord (ov_hl hlen) (ov_at rfl (ov_lt hlen (by decide))) hk (by decide)).up (by decide)) rfl ?_
                  refine bcT_eq rfl (b01_f (i1.trans (decide_eq_false (by omega)))) ?_
                  refine RT_step (pc2 := 27) rfl (fun _ _ => rfl) ?_
                  refine rt_ico rfl ki_3 ?_
                  refine ow_iv1 rfl rfl rfl rfl hlen rfl rfl rfl ((m_isWord (ov_hl hlen) (ov_at rfl (ov_lt hlen (by decide))) hk (by decide)).up (by decide)) rfl ?_
                  refine bcT_eq rfl (b01_f (i3.trans (decide_eq_false (by omega)))) ?_
                  refine RT_step (pc2 := 40) rfl (fun _ _ => rfl) ?_
                  refine rt_ico rfl ki_4 ?_
                  refine ow_iv1 rfl rfl rfl rfl hlen rfl rfl rfl ((m_isWord (ov_hl hlen) (ov_at rfl (ov_lt hlen (by decide))) hk (by decide)).up (by decide)) rfl ?_
                  refine bcT_eq rfl (b01_f (i4.trans (decide_eq_false (by omega)))) ?_
                  refine rt_ico rfl ki_0 ?_
                  refine RT_step (pc2 := 54) rfl (fun _ _ => rfl) ?_
                  refine RT_step (pc2 := 55) rfl (fun _ _ => rfl) ?_
                  refine rt_ico rfl ki_3 ?_
                  refine biF_ge rfl (n_nle (by decide) (by decide)) ?_
                  refine RT_step (pc2 := 60) rfl (fun _ _ => rfl) ?_
                  refine rt_ico rfl ki_5 ?_
                  refine RT_step (pc2 := 62) rfl (fun _ _ => rfl) ?_
                  refine ba_iadd rfl ?_
                  rw [n_add]
                  refine ow_iv1 rfl rfl rfl rfl hlen rfl rfl rfl ((m_isWord (ov_hl hlen) (ov_at rfl (ov_lt hlen (by decide))) hk (by decide)).up (by decide)) rfl ?_
                  refine bcT_eq rfl (b01_f (i5.trans (decide_eq_false (by omega)))) ?_
                  refine RT_step (pc2 := 78) rfl (fun _ _ => rfl) ?_
                  rw [in_1]
                  refine RT_step (pc2 := 54) rfl (fun _ _ => rfl) ?_
                  refine RT_step (pc2 := 55) rfl (fun _ _ => rfl) ?_
                  refine rt_ico rfl ki_3 ?_
                  refine biF_ge rfl (n_nle (by decide) (by decide)) ?_
                  refine RT_step (pc2 := 60) rfl (fun _ _ => rfl) ?_
                  refine rt_ico rfl ki_5 ?_
                  refine RT_step (pc2 := 62) rfl (fun _ _ => rfl) ?_
                  refine ba_iadd rfl ?_
                  rw [n_add]
                  refine ow_iv1 rfl rfl rfl rfl hlen rfl rfl rfl ((m_isWord (ov_hl hlen) (ov_at rfl (ov_lt hlen (by decide))) hk (by decide)).up (by decide)) rfl ?_
                  refine bcF_eq rfl (b01_t (i6.trans (decide_eq_true cw))) ?_
                  refine RT_step (pc2 := 70) rfl (fun _ _ => rfl) ?_
                  refine RT_step (pc2 := 71) rfl (fun _ _ => rfl) ?_
                  refine ow_iv1 (l2 := ((180, M) :: (181, mtl ts) :: [(183, ia y16), (188, lng y17), (191, zb y18)])) rfl rfl rfl rfl hlen rfl rfl rfl ((h.2 H hlen).up (by decide)) rfl ?_
                  exact ow_irt rfl rfl rfl
            · by_cases cw : w = 10
              · rcases on13_2 hB hM hb hn hl (pr := pr) (pl := pl) (tk := tk) (td := td) (fp := fp) (qm := qm) t cw d with ⟨T, M, D, R, f, g1, g2, h⟩ | ⟨tk2, td2, T, M, D, R, c, g, h⟩
                · obtain ⟨y0, y1, y2, y3, y4, y5, y6, y7, y8, y9, y10, y11, y12, y13, y14, y15, rfl⟩ := g1
                  obtain ⟨y16, y17, y18, rfl⟩ := g2
                  refine Or.inl ⟨T, M, [(13, dcl13 y0 y1 y2 y3 y4 y5 y6), (14, lng y7), (15, ia y8), (16, ia y9), (17, ia y10), (18, ia y11), (19, lng y12), (20, ia y13), (21, ia y14), (22, ia y15)], [(183, ia y16), (188, lng y17), (191, zb y18)], f, ⟨_, _, _, _, _, _, _, _, _, _, _, _, _, _, _, _, rfl⟩, ⟨_, _, _, rfl⟩, fun H L q hlen l0 l1 l2 hq => ?_, fun H hlen => ?_⟩
                  · refine RT_step (pc2 := 37) rfl (fun _ _ => rfl) ?_
                    refine rt_ald rfl l1 ?_
                    refine ow_gf rfl rfl rfl hlen rfl ?_
                    refine rt_ord rfl hw rfl ?_
                    refine rt_isw rfl (v := 7) (by rw [cw]; decide +kernel) ?_
                    refine RT_step (pc2 := 124) rfl (fun _ _ => rfl) ?_
                    refine rt_ald rfl l0 ?_
                    refine rt_ald rfl l1 ?_
                    refine ow_iv1 (l2 := ((1, T) :: (2, bcl bs) :: [(13, dcl13 y0 y1 y2 y3 y4 y5 y6), (14, lng y7), (15, ia y8), (16, ia y9), (17, ia y10), (18, ia y11), (19, lng y12), (20, ia y13), (21, ia y14), (22, ia y15)])) rfl rfl rfl rfl hlen rfl rfl rfl ((h.1 H hlen).up (by decide)) rfl ?_
                    refine rt_ist rfl (by decide +kernel) ?_
                    refine RT_step (pc2 := 139) rfl (fun _ _ => rfl) ?_
                    exact hq _ (gs_o rfl l0 rfl) (gs_o rfl l1 rfl) (gs_o rfl l2 rfl) gs_n
                  · refine FR_st rfl rfl ?_
                    refine RT_step (pc2 := 1) rfl (fun _ _ => rfl) ?_
                    refine rt_ico rfl ki_0 ?_
                    refine ow_iv1 rfl rfl rfl rfl hlen rfl rfl rfl ((m_isWord (ov_hl hlen) (ov_at rfl (ov_lt hlen (by decide))) hk (by decide)).up (by decide)) rfl ?_
                    refine bcT_eq rfl (b01_f (i0.trans (decide_eq_false (by omega)))) ?_
                    refine RT_step (pc2 := 14) rfl (fun _ _ => rfl) ?_
                    refine rt_ico rfl ki_1 ?_
                    refine ow_iv1 rfl rfl rfl rfl hlen rfl rfl rfl ((m_isWord (ov_hl hlen) (ov_at rfl (ov_lt hlen (by decide))) hk (by decide)).up (by decide)) rfl ?_
                    refine bcT_eq rfl (b01_f (i1.trans (decide_eq_false (by omega)))) ?_
                    refine RT_step (pc2 := 27) rfl (fun _ _ => rfl) ?_
                    refine rt_ico rfl ki_3 ?_
                    refine ow_iv1 rfl rfl rfl rfl hlen rfl rfl rfl ((m_isWord (ov_hl hlen) (ov_at rfl (ov_lt hlen (by decide))) hk (by decide)).up (by decide)) rfl ?_
                    refine bcT_eq rfl (b01_f (i3.trans (decide_eq_false (by omega)))) ?_
                    refine RT_step (pc2 := 40) rfl (fun _ _ => rfl) ?_
                    refine rt_ico rfl ki_4 ?_
                    refine ow_iv1 rfl rfl rfl rfl hlen rfl rfl rfl ((m_isWord (ov_hl hlen) (ov_at rfl (ov_lt hlen (by decide))) hk (by decide)).up (by decide)) rfl ?_
                    refine bcT_eq rfl (b01_f (i4.trans (decide_eq_false (by omega)))) ?_
                    refine rt_ico rfl ki_0 ?_
                    refine RT_step (pc2 := 54) rfl (fun _ _ => rfl) ?_
                    refine RT_step (pc2 := 55) rfl (fun _ _ => rfl) ?_
                    refine rt_ico rfl ki_3 ?_
                    refine biF_ge rfl (n_nle (by decide) (by decide)) ?_
                    refine RT_step (pc2 := 60) rfl (fun _ _ => rfl) ?_
                    refine rt_ico rfl ki_5 ?_
                    refine RT_step (pc2 := 62) rfl (fun _ _ => rfl) ?_
                    refine ba_iadd rfl ?_
                    rw [n_add]
                    refine ow_iv1 rfl rfl rfl rfl hlen rfl rfl rfl ((m_isWord (ov_hl hlen) (ov_at rfl (ov_lt hlen (by decide))) hk (by decide)).up (by decide)) rfl ?_
                    refine bcT_eq rfl (b01_f (i5.trans (decide_eq_false (by omega)))) ?_
                    refine RT_step (pc2 := 78) rfl (fun _ _ => rfl) ?_
                    rw [in_1]
                    refine RT_step (pc2 := 54) rfl (fun _ _ => rfl) ?_
                    refine RT_step (pc2 := 55) rfl (fun _ _ => rfl) ?_
                    refine rt_ico rfl ki_3 ?_
                    refine biF_ge rfl (n_nle (by decide) (by decide)) ?_
                    refine RT_step (pc2 := 60) rfl (fun _ _ => rfl) ?_
                    refine rt_ico rfl ki_5 ?_
                    refine RT_step (pc2 := 62) rfl (fun _ _ => rfl) ?_
                    refine ba_iadd rfl ?_
                    rw [n_add]
                    refine ow_iv1 rfl rfl rfl rfl hlen rfl rfl rfl ((m_isWord (ov_hl hlen) (ov_at rfl (ov_lt hlen (by decide))) hk (by decide)).up (by decide)) rfl ?_
                    refine bcT_eq rfl (b01_f (i6.trans (decide_eq_false (by omega)))) ?_
                    refine RT_step (pc2 := 78) rfl (fun _ _ => rfl) ?_
                    rw [in_1]
                    refine RT_step (pc2 := 54) rfl (fun _ _ => rfl) ?_
                    refine RT_step (pc2 := 55) rfl (fun _ _ => rfl) ?_
                    refine rt_ico rfl ki_3 ?_
                    refine biF_ge rfl (n_nle (by decide) (by decide)) ?_
                    refine RT_step (pc2 := 60) rfl (fun _ _ => rfl) ?_
                    refine rt_ico rfl ki_5 ?_
                    refine RT_step (pc2 := 62) rfl (fun _ _ => rfl) ?_
                    refine ba_iadd rfl ?_
                    rw [n_add]
                    refine ow_iv1 rfl rfl rfl rfl hlen rfl rfl rfl ((m_isWord (ov_hl hlen) (ov_at rfl (ov_lt hlen (by decide))) hk (by decide)).up (by decide)) rfl ?_
                    refine bcF_eq rfl (b01_t (i7.trans (decide_eq_true cw))) ?_
                    refine RT_step (pc2 := 70) rfl (fun _ _ => rfl) ?_
                    refine RT_step (pc2 := 71) rfl (fun _ _ => rfl) ?_
                    refine ow_iv1 (l2 := ((180, M) :: (181, mtl ts) :: [(183, ia y16), (188, lng y17), (191, zb y18)])) rfl rfl rfl rfl hlen rfl rfl rfl ((h.2 H hlen).up (by decide)) rfl ?_
                    exact ow_irt rfl rfl rfl
                · have gg := g
                  obtain ⟨y0, y1, y2, y3, y4, y5, y6, y7, y8, y9, y10, y11, y12, y13, y14, y15, y16, y17, y18, rfl, rfl, -⟩ := g
                  refine Or.inr ⟨tk2, td2, T, M, _, _, c, gg, fun H L q hlen l0 l1 l2 hq => ?_, fun H hlen => ?_⟩
                  · refine RT_step (pc2 := 37) rfl (fun _ _ => rfl) ?_
                    refine rt_ald rfl l1 ?_
                    refine ow_gf rfl rfl rfl hlen rfl ?_
                    refine rt_ord rfl hw rfl ?_
                    refine rt_isw rfl (v := 7) (by rw [cw]; decide +kernel) ?_
                    refine RT_step (pc2 := 124) rfl (fun _ _ => rfl) ?_
                    refine rt_ald rfl l0 ?_
                    refine rt_ald rfl l1 ?_
                    refine ow_iv1 (l2 := ((1, T) :: (2, bcl bs) :: [(13, dcl13 y0 y1 y2 y3 y4 y5 y6), (14, lng y7), (15, ia y8), (16, ia y9), (17, ia y10), (18, ia y11), (19, lng y12), (20, ia y13), (21, ia y14), (22, ia y15)])) rfl rfl rfl rfl hlen rfl rfl rfl ((h.1 H hlen).up (by decide)) rfl ?_
                    refine rt_ist rfl (by decide +kernel) ?_
                    refine RT_step (pc2 := 139) rfl (fun _ _ => rfl) ?_
                    exact hq _ (gs_o rfl l0 rfl) (gs_o rfl l1 rfl) (gs_o rfl l2 rfl) gs_n
                  · refine FR_st rfl rfl ?_
                    refine RT_step (pc2 := 1) rfl (fun _ _ => rfl) ?_
                    refine rt_ico rfl ki_0 ?_
                    refine ow_iv1 rfl rfl rfl rfl hlen rfl rfl rfl ((m_isWord (ov_hl hlen) (ov_at rfl (ov_lt hlen (by decide))) hk (by decide)).up (by decide)) rfl ?_
                    refine bcT_eq rfl (b01_f (i0.trans (decide_eq_false (by omega)))) ?_
                    refine RT_step (pc2 := 14) rfl (fun _ _ => rfl) ?_
                    refine rt_ico rfl ki_1 ?_
                    refine ow_iv1 rfl rfl rfl rfl hlen rfl rfl rfl ((m_isWord (ov_hl hlen) (ov_at rfl (ov_lt hlen (by decide))) hk (by decide)).up (by decide)) rfl ?_
                    refine bcT_eq rfl (b01_f (i1.trans (decide_eq_false (by omega)))) ?_
                    refine RT_step (pc2 := 27) rfl (fun _ _ => rfl) ?_
                    refine rt_ico rfl ki_3 ?_
                    refine ow_iv1 rfl rfl rfl rfl hlen rfl rfl rfl ((m_isWord (ov_hl hlen) (ov_at rfl (ov_lt hlen (by decide))) hk (by decide)).up (by decide)) rfl ?_
                    refine bcT_eq rfl (b01_f (i3.trans (decide_eq_false (by omega)))) ?_
                    refine RT_step (pc2 := 40) rfl (fun _ _ => rfl) ?_
                    refine rt_ico rfl ki_4 ?_
                    refine ow_iv1 rfl rfl rfl rfl hlen rfl rfl rfl ((m_isWord (ov_hl hlen) (ov_at rfl (ov_lt hlen (by decide))) hk (by decide)).up (by decide)) rfl ?_
                    refine bcT_eq rfl (b01_f (i4.trans (decide_eq_false (by omega)))) ?_
                    refine rt_ico rfl ki_0 ?_
                    refine RT_step (pc2 := 54) rfl (fun _ _ => rfl) ?_
                    refine RT_step (pc2 := 55) rfl (fun _ _ => rfl) ?_
                    refine rt_ico rfl ki_3 ?_
                    refine biF_ge rfl (n_nle (by decide) (by decide)) ?_
                    refine RT_step (pc2 := 60) rfl (fun _ _ => rfl) ?_
                    refine rt_ico rfl ki_5 ?_
                    refine RT_step (pc2 := 62) rfl (fun _ _ => rfl) ?_
                    refine ba_iadd rfl ?_
                    rw [n_add]
                    refine ow_iv1 rfl rfl rfl rfl hlen rfl rfl rfl ((m_isWord (ov_hl hlen) (ov_at rfl (ov_lt hlen (by decide))) hk (by decide)).up (by decide)) rfl ?_
                    refine bcT_eq rfl (b01_f (i5.trans (decide_eq_false (by omega)))) ?_
                    refine RT_step (pc2 := 78) rfl (fun _ _ => rfl) ?_
                    rw [in_1]
                    refine RT_step (pc2 := 54) rfl (fun _ _ => rfl) ?_
                    refine RT_step (pc2 := 55) rfl (fun _ _ => rfl) ?_
                    refine rt_ico rfl ki_3 ?_
                    refine biF_ge rfl (n_nle (by decide) (by decide)) ?_
                    refine RT_step (pc2 := 60) rfl (fun _ _ => rfl) ?_
                    refine rt_ico rfl ki_5 ?_
                    refine RT_step (pc2 := 62) rfl (fun _ _ => rfl) ?_
                    refine ba_iadd rfl ?_
                    rw [n_add]
                    refine ow_iv1 rfl rfl rfl rfl hlen rfl rfl rfl ((m_isWord (ov_hl hlen) (ov_at rfl (ov_lt hlen (by decide))) hk (by decide)).up (by decide)) rfl ?_
                    refine bcT_eq rfl (b01_f (i6.trans (decide_eq_false (by omega)))) ?_
                    refine RT_step (pc2 := 78) rfl (fun _ _ => rfl) ?_
                    rw [in_1]
                    refine RT_step (pc2 := 54) rfl (fun _ _ => rfl) ?_
                    refine RT_step (pc2 := 55) rfl (fun _ _ => rfl) ?_
                    refine rt_ico rfl ki_3 ?_
                    refine biF_ge rfl (n_nle (by decide) (by decide)) ?_
                    refine RT_step (pc2 := 60) rfl (fun _ _ => rfl) ?_
                    refine rt_ico rfl ki_5 ?_
                    refine RT_step (pc2 := 62) rfl (fun _ _ => rfl) ?_
                    refine ba_iadd rfl ?_
                    rw [n_add]
                    refine ow_iv1 rfl rfl rfl rfl hlen rfl rfl rfl ((m_isWord (ov_hl hlen) (ov_at rfl (ov_lt hlen (by decide))) hk (by decide)).up (by decide)) rfl ?_
                    refine bcF_eq rfl (b01_t (i7.trans (decide_eq_true cw))) ?_
                    refine RT_step (pc2 := 70) rfl (fun _ _ => rfl) ?_
                    refine RT_step (pc2 := 71) rfl (fun _ _ => rfl) ?_
                    refine ow_iv1 (l2 := ((180, M) :: (181, mtl ts) :: [(183, ia y16), (188, lng y17), (191, zb y18)])) rfl rfl rfl rfl hlen rfl rfl rfl ((h.2 H hlen).up (by decide)) rfl ?_
                    exact ow_irt rfl rfl rfl
              · obtain ⟨T, M, f, hx, hm⟩ := s_ref (bs := bs) (ts := ts) (lim := lim) (po := pof pr) (pl := pl) (tk := tk) (td := td) (fp := fp) (plM := qm) t (kk := 1) (by decide) (by decide) (Or.inr rfl)
                obtain ⟨sv, es, ev⟩ := sw_other w hw (by omega) (by omega) (by omega) (by omega) (by omega) (by omega) (by omega)
                refine Or.inl ⟨T, M, [(13, dcl13 P Dn lw cl id gl bo), (14, lng pn), (15, ia ri), (16, ia lf), (17, ia wa), (18, ia fo), (19, lng dn), (20, ia ha), (21, ia pa), (22, ia bl)], [(183, ia rd), (188, lng rn), (191, zb on)], f, ⟨_, _, _, _, _, _, _, _, _, _, _, _, _, _, _, _, rfl⟩, ⟨_, _, _, rfl⟩, fun H L q hlen l0 l1 l2 hq => ?_, fun H hlen => ?_⟩
                · refine RT_step (pc2 := 37) rfl (fun _ _ => rfl) ?_
                  refine rt_ald rfl l1 ?_
                  refine ow_gf rfl rfl rfl hlen rfl ?_
                  refine rt_ord rfl hw rfl ?_
                  refine rt_isw rfl es ?_
                  refine rt_tsD (t := 133) rfl ev rfl ?_
                  refine rt_ald rfl l1 ?_
                  refine rt_ico rfl ki_1 ?_
                  refine ow_iv1 (l2 := ((1, T) :: (2, bcl bs) :: [(13, dcl13 P Dn lw cl id gl bo), (14, lng pn), (15, ia ri), (16, ia lf), (17, ia wa), (18, ia fo), (19, lng dn), (20, ia ha), (21, ia pa), (22, ia bl)])) rfl rfl rfl rfl hlen rfl rfl rfl ((hx _ (ov_hl hlen) (ov_at rfl (ov_lt hlen (by decide))) (ov_at rfl (ov_lt hlen (by decide)))).up (by decide)) rfl ?_
                  refine rt_ist rfl (by decide +kernel) ?_
                  exact hq _ (gs_o rfl l0 rfl) (gs_o rfl l1 rfl) (gs_o rfl l2 rfl) gs_n
                · refine FR_st rfl rfl ?_
                  refine RT_step (pc2 := 1) rfl (fun _ _ => rfl) ?_
                  refine rt_ico rfl ki_0 ?_
                  refine ow_iv1 rfl rfl rfl rfl hlen rfl rfl rfl ((m_isWord (ov_hl hlen) (ov_at rfl (ov_lt hlen (by decide))) hk (by decide)).up (by decide)) rfl ?_
                  refine bcT_eq rfl (b01_f (i0.trans (decide_eq_false (by omega)))) ?_
                  refine RT_step (pc2 := 14) rfl (fun _ _ => rfl) ?_
                  refine rt_ico rfl ki_1 ?_
                  refine ow_iv1 rfl rfl rfl rfl hlen rfl rfl rfl ((m_isWord (ov_hl hlen) (ov_at rfl (ov_lt hlen (by decide))) hk (by decide)).up (by decide)) rfl ?_
                  refine bcT_eq rfl (b01_f (i1.trans (decide_eq_false (by omega)))) ?_
                  refine RT_step (pc2 := 27) rfl (fun _ _ => rfl) ?_
                  refine rt_ico rfl ki_3 ?_
                  refine ow_iv1 rfl rfl rfl rfl hlen rfl rfl rfl ((m_isWord (ov_hl hlen) (ov_at rfl (ov_lt hlen (by decide))) hk (by decide)).up (by decide)) rfl ?_
                  refine bcT_eq rfl (b01_f (i3.trans (decide_eq_false (by omega)))) ?_
                  refine RT_step (pc2 := 40) rfl (fun _ _ => rfl) ?_
                  refine rt_ico rfl ki_4 ?_
                  refine ow_iv1 rfl rfl rfl rfl hlen rfl rfl rfl ((m_isWord (ov_hl hlen) (ov_at rfl (ov_lt hlen (by decide))) hk (by decide)).up (by decide)) rfl ?_
                  refine bcT_eq rfl (b01_f (i4.trans (decide_eq_false (by omega)))) ?_
                  refine rt_ico rfl ki_0 ?_
                  refine RT_step (pc2 := 54) rfl (fun _ _ => rfl) ?_
                  refine RT_step (pc2 := 55) rfl (fun _ _ => rfl) ?_
                  refine rt_ico rfl ki_3 ?_
                  refine biF_ge rfl (n_nle (by decide) (by decide)) ?_
                  refine RT_step (pc2 := 60) rfl (fun _ _ => rfl) ?_
                  refine rt_ico rfl ki_5 ?_
                  refine RT_step (pc2 := 62) rfl (fun _ _ => rfl) ?_
                  refine ba_iadd rfl ?_
                  rw [n_add]
                  refine ow_iv1 rfl rfl rfl rfl hlen rfl rfl rfl ((m_isWord (ov_hl hlen) (ov_at rfl (ov_lt hlen (by decide))) hk (by decide)).up (by decide)) rfl ?_
                  refine bcT_eq rfl (b01_f (i5.trans (decide_eq_false (by omega)))) ?_
                  refine RT_step (pc2 := 78) rfl (fun _ _ => rfl) ?_
                  rw [in_1]
                  refine RT_step (pc2 := 54) rfl (fun _ _ => rfl) ?_
                  refine RT_step (pc2 := 55) rfl (fun _ _ => rfl) ?_
                  refine rt_ico rfl ki_3 ?_
                  refine biF_ge rfl (n_nle (by decide) (by decide)) ?_
                  refine RT_step (pc2 := 60) rfl (fun _ _ => rfl) ?_
                  refine rt_ico rfl ki_5 ?_
                  refine RT_step (pc2 := 62) rfl (fun _ _ => rfl) ?_
                  refine ba_iadd rfl ?_
                  rw [n_add]
                  refine ow_iv1 rfl rfl rfl rfl hlen rfl rfl rfl ((m_isWord (ov_hl hlen) (ov_at rfl (ov_lt hlen (by decide))) hk (by decide)).up (by decide)) rfl ?_
                  refine bcT_eq rfl (b01_f (i6.trans (decide_eq_false (by omega)))) ?_
                  refine RT_step (pc2 := 78) rfl (fun _ _ => rfl) ?_
                  rw [in_1]
                  refine RT_step (pc2 := 54) rfl (fun _ _ => rfl) ?_
                  refine RT_step (pc2 := 55) rfl (fun _ _ => rfl) ?_
                  refine rt_ico rfl ki_3 ?_
                  refine biF_ge rfl (n_nle (by decide) (by decide)) ?_
                  refine RT_step (pc2 := 60) rfl (fun _ _ => rfl) ?_
                  refine rt_ico rfl ki_5 ?_
                  refine RT_step (pc2 := 62) rfl (fun _ _ => rfl) ?_
                  refine ba_iadd rfl ?_
                  rw [n_add]
                  refine ow_iv1 rfl rfl rfl rfl hlen rfl rfl rfl ((m_isWord (ov_hl hlen) (ov_at rfl (ov_lt hlen (by decide))) hk (by decide)).up (by decide)) rfl ?_
                  refine bcT_eq rfl (b01_f (i7.trans (decide_eq_false (by omega)))) ?_
                  refine RT_step (pc2 := 78) rfl (fun _ _ => rfl) ?_
                  rw [in_1]
                  refine RT_step (pc2 := 54) rfl (fun _ _ => rfl) ?_
                  refine RT_step (pc2 := 55) rfl (fun _ _ => rfl) ?_
                  refine rt_ico rfl ki_3 ?_
                  refine biT_ge rfl (n_le (by decide) (by decide)) ?_
                  refine RT_step (pc2 := 82) rfl (fun _ _ => rfl) ?_
                  refine rt_ico rfl ki_1 ?_
                  refine ow_iv1 (l2 := ((180, M) :: (181, mtl ts) :: [(183, ia rd), (188, lng rn), (191, zb on)])) rfl rfl rfl rfl hlen rfl rfl rfl ((hm _ (ov_hl hlen) (ov_at rfl (ov_lt hlen (by decide))) (ov_at rfl (ov_lt hlen (by decide)))).up (by decide)) rfl ?_
                  exact ow_irt rfl rfl rfl
end
