/-! ===== opening a text; zeros ===== -/
def zl (l : List Int32) : Nat → Nat → List Int32
  | 0, _ => l
  | r + 1, i => zl (l.set i (Int32.ofNat 0)) r (i + 1)
theorem zl_len : ∀ {r i : Nat} {l : List Int32}, (zl l r i).length = l.length
  | 0, _, _ => rfl
  | r + 1, i, l => by
    show (zl (l.set i (Int32.ofNat 0)) r (i + 1)).length = _
    rw [zl_len, List.length_set]
theorem zl_no : ∀ {r i j : Nat} {l : List Int32}, (j < i ∨ i + r ≤ j) → (zl l r i)[j]? = l[j]?
  | 0, _, _, _, _ => rfl
  | r + 1, i, j, l, h => by
    show (zl (l.set i (Int32.ofNat 0)) r (i + 1))[j]? = _
    rw [zl_no (by omega), List.getElem?_set_ne (by omega)]
theorem zl_at : ∀ {r i j : Nat} {l : List Int32}, i ≤ j → j < i + r → j < l.length → (zl l r i)[j]? = some (Int32.ofNat 0)
  | 0, i, j, l, h1, h2, _ => by omega
  | r + 1, i, j, l, h1, h2, h3 => by
    show (zl (l.set i (Int32.ofNat 0)) r (i + 1))[j]? = _
    by_cases c : i = j
    · subst c
      rw [zl_no (Or.inl (Nat.lt_succ_self i)), List.getElem?_set_self h3]
    · exact zl_at (by omega) (by omega) (by rw [List.length_set]; exact h3)
/-- a DUCHY that is read: its numbers are told -/
def DF (P Dn : Nat) (lw cl id : Int32) (gl bo : Nat) (pn : List Int64) (ri lf wa fo : List Int32) (dn : List Int64) (ha pa bl : List Int32) (rd : List Int32) (rn : List Int64) : Prop :=
  P ≤ 7 ∧ Dn ≤ 8 ∧ DL pn ri lf wa fo dn ha pa bl ∧ NR P Dn pn dn rn ∧ VR P Dn gl bo ri lf fo ha pa bl rd ∧ WA P wa rd ∧ rd[2]? = some lw ∧ rd[3]? = some cl ∧ rd[4]? = some id
def FC2 (n lim : Nat) (po : List Value) (pl : Nat) (T M : AE) : Prop := ∃ (a kd w : Nat) (le : Int64) (nu tk : Int32) (kk am fm kM : Nat) (nuM sg fa qm : Int32) (wd : Int64) (td : Int32), T = tcl n lim a kd pl w le nu tk (Int32.ofNat kk) (Int32.ofNat pl) ∧ M = mcl (Int32.ofNat 0) (Int32.ofNat 0) n lim am fm kM nuM sg fa qm wd td po ∧ fa = Int32.ofNat kk ∧ qm = Int32.ofNat pl ∧ 1 ≤ kk ∧ kk ≤ 4
def SE3 (D R : List (Nat × AE)) : Prop := ∃ (P : Nat) (Dn : Nat) (lw : Int32) (cl : Int32) (id : Int32) (gl : Nat) (bo : Nat) (pn : List Int64) (ri : List Int32) (lf : List Int32) (wa : List Int32) (fo : List Int32) (dn : List Int64) (ha : List Int32) (pa : List Int32) (bl : List Int32) (rd : List Int32) (rn : List Int64) (on : List Int32), D = [(3, dcl3 P Dn lw cl id gl bo), (4, lng pn), (5, ia ri), (6, ia lf), (7, ia wa), (8, ia fo), (9, lng dn), (10, ia ha), (11, ia pa), (12, ia bl)] ∧ R = [(183, ia rd), (188, lng rn), (191, zb on)] ∧ rd.length = 101 ∧ rn.length = 15 ∧ DF P Dn lw cl id gl bo pn ri lf wa fo dn ha pa bl rd rn
def SE13 (D R : List (Nat × AE)) : Prop := ∃ (P : Nat) (Dn : Nat) (lw : Int32) (cl : Int32) (id : Int32) (gl : Nat) (bo : Nat) (pn : List Int64) (ri : List Int32) (lf : List Int32) (wa : List Int32) (fo : List Int32) (dn : List Int64) (ha : List Int32) (pa : List Int32) (bl : List Int32) (rd : List Int32) (rn : List Int64) (on : List Int32), D = [(13, dcl13 P Dn lw cl id gl bo), (14, lng pn), (15, ia ri), (16, ia lf), (17, ia wa), (18, ia fo), (19, lng dn), (20, ia ha), (21, ia pa), (22, ia bl)] ∧ R = [(183, ia rd), (188, lng rn), (191, zb on)] ∧ rd.length = 101 ∧ rn.length = 15 ∧ DF P Dn lw cl id gl bo pn ri lf wa fo dn ha pa bl rd rn
theorem x_open {H : List AE} {bs : List Int32} {B : Nat → Nat} (hB : BY bs B) (hlen : Nat.ble 204 H.length = true) {n lim0 a0 kd0 pl0 w0 : Nat} {le0 : Int64} {nu0 tk0 fa0 fp0 : Int32} {lim : Nat} (h1 : H[1]? = some (tcl n lim0 a0 kd0 pl0 w0 le0 nu0 tk0 fa0 fp0)) (h2 : H[2]? = some (bcl bs)) (hn : n ≤ 940) (hl : lim ≤ 940) : FR 4 161 [.ref 1, .int (Int32.ofNat lim)] H (none, ov H [(1, advC B n lim 0 (Int32.ofNat 0) (Int32.ofNat 0) (Int32.ofNat 0))]) := by
  refine FR_ov (l := [(1, tcl n lim0 a0 kd0 pl0 w0 le0 nu0 tk0 fa0 fp0), (2, bcl bs)]) (l2 := [(1, advC B n lim 0 (Int32.ofNat 0) (Int32.ofNat 0) (Int32.ofNat 0)), (2, bcl bs)]) (ov_id h1 (ov_c1 h2)) rfl (ov_2 h2) ?_
  refine RT_step (pc2 := 1) rfl (fun _ _ => rfl) ?_
  refine RT_step (pc2 := 2) rfl (fun _ _ => rfl) ?_
  refine ow_pf rfl rfl rfl rfl rfl hlen rfl rfl ?_
  refine RT_step (pc2 := 6) rfl (fun _ _ => rfl) ?_
  refine rt_ico rfl ki_0 ?_
  refine ow_pf rfl rfl rfl rfl rfl hlen rfl rfl ?_
  refine RT_step (pc2 := 11) rfl (fun _ _ => rfl) ?_
  refine rt_ico rfl ki_0 ?_
  refine ow_pf rfl rfl rfl rfl rfl hlen rfl rfl ?_
  refine RT_step (pc2 := 16) rfl (fun _ _ => rfl) ?_
  refine rt_ico rfl ki_0 ?_
  refine ow_pf rfl rfl rfl rfl rfl hlen rfl rfl ?_
  refine RT_step (pc2 := 21) rfl (fun _ _ => rfl) ?_
  refine rt_ico rfl ki_0 ?_
  refine ow_pf rfl rfl rfl rfl rfl hlen rfl rfl ?_
  refine RT_step (pc2 := 26) rfl (fun _ _ => rfl) ?_
  refine ow_iv0 rfl rfl rfl rfl hlen rfl rfl rfl ((x_adv (n := n) (lim := lim) (a := 0) (kd := kd0) (pl := pl0) (w := w0) (le := le0) (nu := nu0) (tk := Int32.ofNat 0) (fa := Int32.ofNat 0) (fp := Int32.ofNat 0) hB (ov_hl hlen) (ov_at rfl (ov_lt hlen (by decide))) (ov_at rfl (ov_lt hlen (by decide))) (Nat.zero_le _) hn hl).up (by decide)) rfl ?_
  exact ow_ret rfl rfl rfl
theorem m_take {H : List AE} (hlen : Nat.ble 204 H.length = true) {n sz0 lim0 a0 fr0 kd0 : Nat} {p0 nu0 sg0 fa0 pl0 td0 : Int32} {wd0 : Int64} {po : List Value} (h1 : H[180]? = some (mcl p0 (Int32.ofNat n) sz0 lim0 a0 fr0 kd0 nu0 sg0 fa0 pl0 wd0 td0 po)) : FR 1 283 [.ref 180] H (some (.int (Int32.ofNat n)), ov H [(180, mcl p0 (Int32.ofNat 0) sz0 lim0 a0 fr0 kd0 nu0 sg0 fa0 pl0 wd0 td0 po)]) := by
  refine FR_ov (l := [(180, mcl p0 (Int32.ofNat n) sz0 lim0 a0 fr0 kd0 nu0 sg0 fa0 pl0 wd0 td0 po)]) (l2 := [(180, mcl p0 (Int32.ofNat 0) sz0 lim0 a0 fr0 kd0 nu0 sg0 fa0 pl0 wd0 td0 po)]) (ov_c1 h1) rfl rfl ?_
  refine RT_step (pc2 := 1) rfl (fun _ _ => rfl) ?_
  refine ow_gf rfl rfl rfl hlen rfl ?_
  refine RT_step (pc2 := 5) rfl (fun _ _ => rfl) ?_
  refine RT_step (pc2 := 6) rfl (fun _ _ => rfl) ?_
  refine rt_ico rfl ki_0 ?_
  refine ow_pf rfl rfl rfl rfl rfl hlen rfl rfl ?_
  refine RT_step (pc2 := 11) rfl (fun _ _ => rfl) ?_
  exact ow_irt rfl rfl rfl
theorem m_begin {H : List AE} {ts : List Int32} {B : Nat → Nat} (hM : MY ts B) (hlen : Nat.ble 204 H.length = true) {n sz0 lim0 a0 fr0 kd0 : Nat} {p0 nu0 sg0 fa0 pl0 td0 : Int32} {wd0 : Int64} {po : List Value} {lim : Nat} (h1 : H[180]? = some (mcl p0 (Int32.ofNat n) sz0 lim0 a0 fr0 kd0 nu0 sg0 fa0 pl0 wd0 td0 po)) (h2 : H[181]? = some (mtl ts)) (hn : n ≤ 940) (hl : lim ≤ 940) : FR 3 176 [.ref 180, .int (Int32.ofNat lim)] H (none, ov H [(180, mcl (Int32.ofNat 0) (Int32.ofNat 0) n lim (goV B n lim 0 nu0 sg0 wd0).1 (goV B n lim 0 nu0 sg0 wd0).2.1 (goV B n lim 0 nu0 sg0 wd0).2.2.1 (goV B n lim 0 nu0 sg0 wd0).2.2.2.1 (goV B n lim 0 nu0 sg0 wd0).2.2.2.2.1 (Int32.ofNat 0) pl0 (goV B n lim 0 nu0 sg0 wd0).2.2.2.2.2 td0 po)]) := by
  refine FR_ov (l := [(180, mcl p0 (Int32.ofNat n) sz0 lim0 a0 fr0 kd0 nu0 sg0 fa0 pl0 wd0 td0 po), (181, mtl ts)]) (l2 := [(180, mcl (Int32.ofNat 0) (Int32.ofNat 0) n lim (goV B n lim 0 nu0 sg0 wd0).1 (goV B n lim 0 nu0 sg0 wd0).2.1 (goV B n lim 0 nu0 sg0 wd0).2.2.1 (goV B n lim 0 nu0 sg0 wd0).2.2.2.1 (goV B n lim 0 nu0 sg0 wd0).2.2.2.2.1 (Int32.ofNat 0) pl0 (goV B n lim 0 nu0 sg0 wd0).2.2.2.2.2 td0 po), (181, mtl ts)]) (ov_id h1 (ov_c1 h2)) rfl (ov_2 h2) ?_
  refine RT_step (pc2 := 1) rfl (fun _ _ => rfl) ?_
  refine rt_ico rfl ki_0 ?_
  refine ow_pf rfl rfl rfl rfl rfl hlen rfl rfl ?_
  refine RT_step (pc2 := 6) rfl (fun _ _ => rfl) ?_
  refine RT_step (pc2 := 7) rfl (fun _ _ => rfl) ?_
  refine ow_iv1 rfl rfl rfl rfl hlen rfl rfl rfl ((m_take (p0 := Int32.ofNat 0) (n := n) (sz0 := sz0) (lim0 := lim0) (a0 := a0) (fr0 := fr0) (kd0 := kd0) (nu0 := nu0) (sg0 := sg0) (fa0 := fa0) (pl0 := pl0) (wd0 := wd0) (td0 := td0) (po := po) (ov_hl hlen) (ov_at rfl (ov_lt hlen (by decide)))).up (by decide)) rfl ?_
  refine ow_pf rfl rfl rfl rfl rfl hlen rfl rfl ?_
  refine RT_step (pc2 := 14) rfl (fun _ _ => rfl) ?_
  refine RT_step (pc2 := 15) rfl (fun _ _ => rfl) ?_
  refine ow_pf rfl rfl rfl rfl rfl hlen rfl rfl ?_
  refine RT_step (pc2 := 19) rfl (fun _ _ => rfl) ?_
  refine rt_ico rfl ki_0 ?_
  refine ow_pf rfl rfl rfl rfl rfl hlen rfl rfl ?_
  refine RT_step (pc2 := 24) rfl (fun _ _ => rfl) ?_
  refine rt_ico rfl ki_0 ?_
  refine ow_pf rfl rfl rfl rfl rfl hlen rfl rfl ?_
  refine RT_step (pc2 := 29) rfl (fun _ _ => rfl) ?_
  refine ow_iv0 rfl rfl rfl rfl hlen rfl rfl rfl ((m_go (p0 := Int32.ofNat 0) (p2 := Int32.ofNat 0) (sz := n) (lim := lim) (a := 0) (fr := fr0) (kd := kd0) (nu := nu0) (sg := sg0) (fa := Int32.ofNat 0) (pl := pl0) (wd := wd0) (td := td0) (po := po) hM (ov_hl hlen) (ov_at rfl (ov_lt hlen (by decide))) (ov_at rfl (ov_lt hlen (by decide))) (Nat.zero_le _) hn hl).up (by decide)) rfl ?_
  exact ow_ret rfl rfl rfl
theorem sw_other : ∀ w, w < 32 → w ≠ 2 → w ≠ 4 → w ≠ 6 → w ≠ 7 → w ≠ 8 → w ≠ 9 → w ≠ 10 → ∃ v : Int32, ev_rd ev_sw (Int32.ofNat w) = some v ∧ (v.toInt < 1 ∨ 7 < v.toInt) := by
  intro w hw h2 h4 h6 h7 h8 h9 h10
  have key : ∀ w, w < 32 → (w = 2 ∨ w = 4 ∨ w = 6 ∨ w = 7 ∨ w = 8 ∨ w = 9 ∨ w = 10) ∨ (ev_rd ev_sw (Int32.ofNat w) = some (ev_sw.getD w 0) ∧ ((ev_sw.getD w 0).toInt < 1 ∨ 7 < (ev_sw.getD w 0).toInt)) := by decide +kernel
  have k := (key w hw).resolve_left (by omega)
  exact ⟨_, k.1, k.2⟩
