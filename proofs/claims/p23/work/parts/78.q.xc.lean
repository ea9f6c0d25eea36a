theorem ki_m1 : Int32.ofInt (-1) = (-1 : Int32) := by decide +kernel
/-! ===== the small readers of the reference; NAMES looked up ===== -/
def pof (pr : List Value) : List Value := .ref 182 :: .ref 183 :: .ref 184 :: .ref 185 :: .ref 186 :: .ref 187 :: .ref 188 :: .ref 189 :: .ref 190 :: .ref 191 :: pr
theorem n_m1 {j : Nat} (h : j < 100000) : ¬ Int32.ofNat j = (-1 : Int32) := fun e => by
  have e := congrArg Int32.toInt e
  rw [n_int (by omega), show (-1 : Int32).toInt = -1 from rfl] at e
  omega
theorem n_z {j : Nat} (h : 1 ≤ j) (h2 : j < 100000) : ¬ Int32.ofNat j = 0 := n_ne (b := 0) (by omega) (by omega) (by decide)
theorem fd_0 {L : List Int64} {w : Int64} {o r i : Nat} (h : L.getD (o + i) 0 = w) : fd L w o (r + 1) i = some i := if_pos h
theorem fd_1 {L : List Int64} {w : Int64} {o r i : Nat} (h : ¬ L.getD (o + i) 0 = w) : fd L w o (r + 1) i = fd L w o r (i + 1) := if_neg h
def dcl3 (P Dn : Nat) (lw cl id : Int32) (gl bo : Nat) : AE := .inr (1, [.int (Int32.ofNat P), .int (Int32.ofNat Dn), .int lw, .int cl, .int id, .int (Int32.ofNat gl), .int (Int32.ofNat bo), .ref 4, .ref 5, .ref 6, .ref 9, .ref 10, .ref 11, .ref 12, .ref 7, .ref 8])
def dcl13 (P Dn : Nat) (lw cl id : Int32) (gl bo : Nat) : AE := .inr (1, [.int (Int32.ofNat P), .int (Int32.ofNat Dn), .int lw, .int cl, .int id, .int (Int32.ofNat gl), .int (Int32.ofNat bo), .ref 14, .ref 15, .ref 16, .ref 19, .ref 20, .ref 21, .ref 22, .ref 17, .ref 18])
theorem x_find4L {H : List AE} (hlen : Nat.ble 204 H.length = true) {arr : List Int64} {wq : Int64} {cnt : Nat} (hc : 0 + cnt ≤ arr.length) (ha : arr.length ≤ 100) {dd : Nat} : ∀ (r i : Nat) (L : List (Nat × Value)), i + r = cnt → ev_g L 0 = some (.ref 4) → ev_g L 1 = some (.int (Int32.ofNat cnt)) → ev_g L 2 = some (.long wq) → ev_g L 4 = some (.int (Int32.ofNat i)) → RT MM dd 66 3 L [] (ov H [(4, lng arr)]) (some (.int (fdI (fd arr wq 0 r i))), ov H [(4, lng arr)]) := by
  intro r
  induction r with
  | zero =>
    intro i L hi l0 l1 l2 l4
    have hi : i = cnt := by omega
    subst hi
    refine rt_il2 rfl l4 ?_
    refine rt_ild rfl l1 ?_
    refine biT_ge rfl (n_le (Nat.le_refl _) (by omega)) ?_
    refine rt_ico rfl ki_m1 ?_
    exact ow_irt rfl rfl rfl
  | succ r ih =>
    intro i L hi l0 l1 l2 l4
    have ez : arr.getD (0 + i) 0 = arr.getD i 0 := by rw [Nat.zero_add]
    by_cases hq : arr.getD i 0 = wq
    · rw [fd_0 (ez.trans hq)]
      refine rt_il2 rfl l4 ?_
      refine rt_ild rfl l1 ?_
      refine biF_ge rfl (n_nle (by omega) (by omega)) ?_
      refine rt_il2 rfl l4 ?_
      refine rt_ald rfl l0 ?_
      refine ow_aln rfl rfl hlen rfl ?_
      refine biF_ge rfl (n_nle (by omega) (by omega)) ?_
      refine rt_ald rfl l0 ?_
      refine rt_il2 rfl l4 ?_
      refine ow_lalN rfl rfl (gDy (i := i) (by omega)) (by omega) hlen rfl ?_
      refine rt_lld rfl l2 ?_
      refine ba_lcmp rfl ?_
      refine bcT_ne rfl (lg_0 hq) ?_
      refine rt_il2 rfl l4 ?_
      exact ow_irt rfl rfl rfl
    · rw [fd_1 (fun e => hq (ez.symm.trans e))]
      refine rt_il2 rfl l4 ?_
      refine rt_ild rfl l1 ?_
      refine biF_ge rfl (n_nle (by omega) (by omega)) ?_
      refine rt_il2 rfl l4 ?_
      refine rt_ald rfl l0 ?_
      refine ow_aln rfl rfl hlen rfl ?_
      refine biF_ge rfl (n_nle (by omega) (by omega)) ?_
      refine rt_ald rfl l0 ?_
      refine rt_il2 rfl l4 ?_
      refine ow_lalN rfl rfl (gDy (i := i) (by omega)) (by omega) hlen rfl ?_
      refine rt_lld rfl l2 ?_
      refine ba_lcmp rfl ?_
      refine bcF_ne rfl (lg_1 hq) ?_
      refine rt_inc rfl l4 (by decide +kernel) ?_
      rw [in_1]
      refine RT_step (pc2 := 3) rfl (fun _ _ => rfl) ?_
      exact ih (i + 1) _ (by omega) (gs_o rfl l0 rfl) (gs_o rfl l1 rfl) (gs_o2 rfl rfl l2) gs_n
theorem x_find4 {H : List AE} (hlen : Nat.ble 204 H.length = true) {arr : List Int64} {wq : Int64} {cnt : Nat} (h1 : H[4]? = some (lng arr)) (hc : 0 + cnt ≤ arr.length) (ha : arr.length ≤ 100) : FR 1 66 [.ref 4, .int (Int32.ofNat cnt), .long wq] H (some (.int (fdI (fd arr wq 0 cnt 0))), ov H []) := by
  refine FR_ov (l := [(4, lng arr)]) (l2 := [(4, lng arr)]) (ov_c1 h1) rfl (ov_c1 h1) ?_
  refine rt_ico rfl ki_0 ?_
  refine RT_step (pc2 := 3) rfl (fun _ _ => rfl) ?_
  exact x_find4L hlen hc ha cnt 0 _ (by omega) rfl rfl rfl rfl
theorem x_find9L {H : List AE} (hlen : Nat.ble 204 H.length = true) {arr : List Int64} {wq : Int64} {cnt : Nat} (hc : 0 + cnt ≤ arr.length) (ha : arr.length ≤ 100) {dd : Nat} : ∀ (r i : Nat) (L : List (Nat × Value)), i + r = cnt → ev_g L 0 = some (.ref 9) → ev_g L 1 = some (.int (Int32.ofNat cnt)) → ev_g L 2 = some (.long wq) → ev_g L 4 = some (.int (Int32.ofNat i)) → RT MM dd 66 3 L [] (ov H [(9, lng arr)]) (some (.int (fdI (fd arr wq 0 r i))), ov H [(9, lng arr)]) := by
  intro r
  induction r with
  | zero =>
    intro i L hi l0 l1 l2 l4
    have hi : i = cnt := by omega
    subst hi
    refine rt_il2 rfl l4 ?_
    refine rt_ild rfl l1 ?_
    refine biT_ge rfl (n_le (Nat.le_refl _) (by omega)) ?_
    refine rt_ico rfl ki_m1 ?_
    exact ow_irt rfl rfl rfl
  | succ r ih =>
    intro i L hi l0 l1 l2 l4
    have ez : arr.getD (0 + i) 0 = arr.getD i 0 := by rw [Nat.zero_add]
    by_cases hq : arr.getD i 0 = wq
    · rw [fd_0 (ez.trans hq)]
      refine rt_il2 rfl l4 ?_
      refine rt_ild rfl l1 ?_
      refine biF_ge rfl (n_nle (by omega) (by omega)) ?_
      refine rt_il2 rfl l4 ?_
      refine rt_ald rfl l0 ?_
      refine ow_aln rfl rfl hlen rfl ?_
      refine biF_ge rfl (n_nle (by omega) (by omega)) ?_
      refine rt_ald rfl l0 ?_
      refine rt_il2 rfl l4 ?_
      refine ow_lalN rfl rfl (gDy (i := i) (by omega)) (by omega) hlen rfl ?_
      refine rt_lld rfl l2 ?_
      refine ba_lcmp rfl ?_
      refine bcT_ne rfl (lg_0 hq) ?_
      refine rt_il2 rfl l4 ?_
      exact ow_irt rfl rfl rfl
    · rw [fd_1 (fun e => hq (ez.symm.trans e))]
      refine rt_il2 rfl l4 ?_
      refine rt_ild rfl l1 ?_
      refine biF_ge rfl (n_nle (by omega) (by omega)) ?_
      refine rt_il2 rfl l4 ?_
      refine rt_ald rfl l0 ?_
      refine ow_aln rfl rfl hlen rfl ?_
      refine biF_ge rfl (n_nle (by omega) (by omega)) ?_
      refine rt_ald rfl l0 ?_
      refine rt_il2 rfl l4 ?_
      refine ow_lalN rfl rfl (gDy (i := i) (by omega)) (by omega) hlen rfl ?_
      refine rt_lld rfl l2 ?_
      refine ba_lcmp rfl ?_
      refine bcF_ne rfl (lg_1 hq) ?_
      refine rt_inc rfl l4 (by decide +kernel) ?_
      rw [in_1]
      refine RT_step (pc2 := 3) rfl (fun _ _ => rfl) ?_
      exact ih (i + 1) _ (by omega) (gs_o rfl l0 rfl) (gs_o rfl l1 rfl) (gs_o2 rfl rfl l2) gs_n
theorem x_find9 {H : List AE} (hlen : Nat.ble 204 H.length = true) {arr : List Int64} {wq : Int64} {cnt : Nat} (h1 : H[9]? = some (lng arr)) (hc : 0 + cnt ≤ arr.length) (ha : arr.length ≤ 100) : FR 1 66 [.ref 9, .int (Int32.ofNat cnt), .long wq] H (some (.int (fdI (fd arr wq 0 cnt 0))), ov H []) := by
  refine FR_ov (l := [(9, lng arr)]) (l2 := [(9, lng arr)]) (ov_c1 h1) rfl (ov_c1 h1) ?_
  refine rt_ico rfl ki_0 ?_
  refine RT_step (pc2 := 3) rfl (fun _ _ => rfl) ?_
  exact x_find9L hlen hc ha cnt 0 _ (by omega) rfl rfl rfl rfl
theorem x_find14L {H : List AE} (hlen : Nat.ble 204 H.length = true) {arr : List Int64} {wq : Int64} {cnt : Nat} (hc : 0 + cnt ≤ arr.length) (ha : arr.length ≤ 100) {dd : Nat} : ∀ (r i : Nat) (L : List (Nat × Value)), i + r = cnt → ev_g L 0 = some (.ref 14) → ev_g L 1 = some (.int (Int32.ofNat cnt)) → ev_g L 2 = some (.long wq) → ev_g L 4 = some (.int (Int32.ofNat i)) → RT MM dd 66 3 L [] (ov H [(14, lng arr)]) (some (.int (fdI (fd arr wq 0 r i))), ov H [(14, lng arr)]) := by
  intro r
  induction r with
  | zero =>
    intro i L hi l0 l1 l2 l4
    have hi : i = cnt := by omega
    subst hi
    refine rt_il2 rfl l4 ?_
    refine rt_ild rfl l1 ?_
    refine biT_ge rfl (n_le (Nat.le_refl _) (by omega)) ?_
    refine rt_ico rfl ki_m1 ?_
    exact ow_irt rfl rfl rfl
  | succ r ih =>
    intro i L hi l0 l1 l2 l4
    have ez : arr.getD (0 + i) 0 = arr.getD i 0 := by rw [Nat.zero_add]
    by_cases hq : arr.getD i 0 = wq
    · rw [fd_0 (ez.trans hq)]
      refine rt_il2 rfl l4 ?_
      refine rt_ild rfl l1 ?_
      refine biF_ge rfl (n_nle (by omega) (by omega)) ?_
      refine rt_il2 rfl l4 ?_
      refine rt_ald rfl l0 ?_
      refine ow_aln rfl rfl hlen rfl ?_
      refine biF_ge rfl (n_nle (by omega) (by omega)) ?_
      refine rt_ald rfl l0 ?_
      refine rt_il2 rfl l4 ?_
      refine ow_lalN rfl rfl (gDy (i := i) (by omega)) (by omega) hlen rfl ?_
      refine rt_lld rfl l2 ?_
      refine ba_lcmp rfl ?_
      refine bcT_ne rfl (lg_0 hq) ?_
      refine rt_il2 rfl l4 ?_
      exact ow_irt rfl rfl rfl
    · rw [fd_1 (fun e => hq (ez.symm.trans e))]
      refine rt_il2 rfl l4 ?_
      refine rt_ild rfl l1 ?_
      refine biF_ge rfl (n_nle (by omega) (by omega)) ?_
      refine rt_il2 rfl l4 ?_
      refine rt_ald rfl l0 ?_
      refine ow_aln rfl rfl hlen rfl ?_
      refine biF_ge rfl (n_nle (by omega) (by omega)) ?_
      refine rt_ald rfl l0 ?_
      refine rt_il2 rfl l4 ?_
      refine ow_lalN rfl rfl (gDy (i := i) (by omega)) (by omega) hlen rfl ?_
      refine rt_lld rfl l2 ?_
      refine ba_lcmp rfl ?_
      refine bcF_ne rfl (lg_1 hq) ?_
      refine rt_inc rfl l4 (by decide +kernel) ?_
      rw [in_1]
      refine RT_step (pc2 := 3) rfl (fun _ _ => rfl) ?_
      exact ih (i + 1) _ (by omega) (gs_o rfl l0 rfl) (gs_o rfl l1 rfl) (gs_o2 rfl rfl l2) gs_n
theorem x_find14 {H : List AE} (hlen : Nat.ble 204 H.length = true) {arr : List Int64} {wq : Int64} {cnt : Nat} (h1 : H[14]? = some (lng arr)) (hc : 0 + cnt ≤ arr.length) (ha : arr.length ≤ 100) : FR 1 66 [.ref 14, .int (Int32.ofNat cnt), .long wq] H (some (.int (fdI (fd arr wq 0 cnt 0))), ov H []) := by
  refine FR_ov (l := [(14, lng arr)]) (l2 := [(14, lng arr)]) (ov_c1 h1) rfl (ov_c1 h1) ?_
  refine rt_ico rfl ki_0 ?_
  refine RT_step (pc2 := 3) rfl (fun _ _ => rfl) ?_
  exact x_find14L hlen hc ha cnt 0 _ (by omega) rfl rfl rfl rfl
theorem x_find19L {H : List AE} (hlen : Nat.ble 204 H.length = true) {arr : List Int64} {wq : Int64} {cnt : Nat} (hc : 0 + cnt ≤ arr.length) (ha : arr.length ≤ 100) {dd : Nat} : ∀ (r i : Nat) (L : List (Nat × Value)), i + r = cnt → ev_g L 0 = some (.ref 19) → ev_g L 1 = some (.int (Int32.ofNat cnt)) → ev_g L 2 = some (.long wq) → ev_g L 4 = some (.int (Int32.ofNat i)) → RT MM dd 66 3 L [] (ov H [(19, lng arr)]) (some (.int (fdI (fd arr wq 0 r i))), ov H [(19, lng arr)]) := by
  intro r
  induction r with
  | zero =>
    intro i L hi l0 l1 l2 l4
    have hi : i = cnt := by omega
    subst hi
    refine rt_il2 rfl l4 ?_
    refine rt_ild rfl l1 ?_
    refine biT_ge rfl (n_le (Nat.le_refl _) (by omega)) ?_
    refine rt_ico rfl ki_m1 ?_
    exact ow_irt rfl rfl rfl
  | succ r ih =>
    intro i L hi l0 l1 l2 l4
    have ez : arr.getD (0 + i) 0 = arr.getD i 0 := by rw [Nat.zero_add]
    by_cases hq : arr.getD i 0 = wq
    · rw [fd_0 (ez.trans hq)]
      refine rt_il2 rfl l4 ?_
      refine rt_ild rfl l1 ?_
      refine biF_ge rfl (n_nle (by omega) (by omega)) ?_
      refine rt_il2 rfl l4 ?_
      refine rt_ald rfl l0 ?_
      refine ow_aln rfl rfl hlen rfl ?_
      refine biF_ge rfl (n_nle (by omega) (by omega)) ?_
      refine rt_ald rfl l0 ?_
      refine rt_il2 rfl l4 ?_
      refine ow_lalN rfl rfl (gDy (i := i) (by omega)) (by omega) hlen rfl ?_
      refine rt_lld rfl l2 ?_
      refine ba_lcmp rfl ?_
      refine bcT_ne rfl (lg_0 hq) ?_
      refine rt_il2 rfl l4 ?_
      exact ow_irt rfl rfl rfl
    · rw [fd_1 (fun e => hq (ez.symm.trans e))]
      refine rt_il2 rfl l4 ?_
      refine rt_ild rfl l1 ?_
      refine biF_ge rfl (n_nle (by omega) (by omega)) ?_
      refine rt_il2 rfl l4 ?_
      refine rt_ald rfl l0 ?_
      refine ow_aln rfl rfl hlen rfl ?_
      refine biF_ge rfl (n_nle (by omega) (by omega)) ?_
      refine rt_ald rfl l0 ?_
      refine rt_il2 rfl l4 ?_
      refine ow_lalN rfl rfl (gDy (i := i) (by omega)) (by omega) hlen rfl ?_
      refine rt_lld rfl l2 ?_
      refine ba_lcmp rfl ?_
      refine bcF_ne rfl (lg_1 hq) ?_
      refine rt_inc rfl l4 (by decide +kernel) ?_
      rw [in_1]
      refine RT_step (pc2 := 3) rfl (fun _ _ => rfl) ?_
      exact ih (i + 1) _ (by omega) (gs_o rfl l0 rfl) (gs_o rfl l1 rfl) (gs_o2 rfl rfl l2) gs_n
theorem x_find19 {H : List AE} (hlen : Nat.ble 204 H.length = true) {arr : List Int64} {wq : Int64} {cnt : Nat} (h1 : H[19]? = some (lng arr)) (hc : 0 + cnt ≤ arr.length) (ha : arr.length ≤ 100) : FR 1 66 [.ref 19, .int (Int32.ofNat cnt), .long wq] H (some (.int (fdI (fd arr wq 0 cnt 0))), ov H []) := by
  refine FR_ov (l := [(19, lng arr)]) (l2 := [(19, lng arr)]) (ov_c1 h1) rfl (ov_c1 h1) ?_
  refine rt_ico rfl ki_0 ?_
  refine RT_step (pc2 := 3) rfl (fun _ _ => rfl) ?_
  exact x_find19L hlen hc ha cnt 0 _ (by omega) rfl rfl rfl rfl
theorem m_findL {H : List AE} (hlen : Nat.ble 204 H.length = true) {arr : List Int64} {wq : Int64} {cnt : Nat} {bs0 : Nat} (hc : bs0 + cnt ≤ arr.length) (ha : arr.length ≤ 100) {dd : Nat} : ∀ (r i : Nat) (L : List (Nat × Value)), i + r = cnt → ev_g L 0 = some (.ref 188) → ev_g L 1 = some (.int (Int32.ofNat bs0)) → ev_g L 2 = some (.int (Int32.ofNat cnt)) → ev_g L 3 = some (.long wq) → ev_g L 5 = some (.int (Int32.ofNat i)) → RT MM dd 200 3 L [] (ov H [(188, lng arr)]) (some (.int (fdI (fd arr wq bs0 r i))), ov H [(188, lng arr)]) := by
  intro r
  induction r with
  | zero =>
    intro i L hi l0 l1 l2 l3 l5
    have hi : i = cnt := by omega
    subst hi
    refine rt_il2 rfl l5 ?_
    refine rt_ild rfl l2 ?_
    refine biT_ge rfl (n_le (Nat.le_refl _) (by omega)) ?_
    refine rt_ico rfl ki_m1 ?_
    exact ow_irt rfl rfl rfl
  | succ r ih =>
    intro i L hi l0 l1 l2 l3 l5
    have ez : arr.getD (bs0 + i) 0 = arr.getD (bs0 + i) 0 := rfl
    by_cases hq : arr.getD (bs0 + i) 0 = wq
    · rw [fd_0 (ez.trans hq)]
      refine rt_il2 rfl l5 ?_
      refine rt_ild rfl l2 ?_
      refine biF_ge rfl (n_nle (by omega) (by omega)) ?_
      refine rt_ald rfl l0 ?_
      refine rt_ild rfl l1 ?_
      refine rt_il2 rfl l5 ?_
      refine ba_iadd rfl ?_
      rw [n_add]
      refine ow_lalN rfl rfl (gDy (i := bs0 + i) (by omega)) (by omega) hlen rfl ?_
      refine rt_lld rfl l3 ?_
      refine ba_lcmp rfl ?_
      refine bcT_ne rfl (lg_0 hq) ?_
      refine rt_il2 rfl l5 ?_
      exact ow_irt rfl rfl rfl
    · rw [fd_1 (fun e => hq (ez.symm.trans e))]
      refine rt_il2 rfl l5 ?_
      refine rt_ild rfl l2 ?_
      refine biF_ge rfl (n_nle (by omega) (by omega)) ?_
      refine rt_ald rfl l0 ?_
      refine rt_ild rfl l1 ?_
      refine rt_il2 rfl l5 ?_
      refine ba_iadd rfl ?_
      rw [n_add]
      refine ow_lalN rfl rfl (gDy (i := bs0 + i) (by omega)) (by omega) hlen rfl ?_
      refine rt_lld rfl l3 ?_
      refine ba_lcmp rfl ?_
      refine bcF_ne rfl (lg_1 hq) ?_
      refine rt_inc rfl l5 (by decide +kernel) ?_
      rw [in_1]
      refine RT_step (pc2 := 3) rfl (fun _ _ => rfl) ?_
      exact ih (i + 1) _ (by omega) (gs_o rfl l0 rfl) (gs_o rfl l1 rfl) (gs_o rfl l2 rfl) (gs_o2 rfl rfl l3) gs_n
theorem m_find {H : List AE} (hlen : Nat.ble 204 H.length = true) {arr : List Int64} {wq : Int64} {cnt : Nat} {bs0 : Nat} (h1 : H[188]? = some (lng arr)) (hc : bs0 + cnt ≤ arr.length) (ha : arr.length ≤ 100) : FR 1 200 [.ref 188, .int (Int32.ofNat bs0), .int (Int32.ofNat cnt), .long wq] H (some (.int (fdI (fd arr wq bs0 cnt 0))), ov H []) := by
  refine FR_ov (l := [(188, lng arr)]) (l2 := [(188, lng arr)]) (ov_c1 h1) rfl (ov_c1 h1) ?_
  refine rt_ico rfl ki_0 ?_
  refine RT_step (pc2 := 3) rfl (fun _ _ => rfl) ?_
  exact m_findL hlen hc ha cnt 0 _ (by omega) rfl rfl rfl rfl rfl
theorem m_first_f {H : List AE} (hlen : Nat.ble 204 H.length = true) {ts : List Int32} {n lim a pl kd : Nat} {nm sg qm td : Int32} {wd : Int64} {pr : List Value} {rd : List Int32} {rn : List Int64} {on : List Int32} {M2 : AE} {j m : Nat} (hj : rd[j]? = some (Int32.ofNat m)) (hj2 : j < 101) (hm : MQt ts 1 174 [.ref 180, .int (Int32.ofNat 4)] (mcl (Int32.ofNat 0) (Int32.ofNat 0) n lim a pl (km kd) nm sg (Int32.ofNat 0) qm wd td (pof pr)) (some (.int (Int32.ofNat 0))) M2) : FR 2 252 [.ref 180, .int (Int32.ofNat j), .int (Int32.ofNat m)] (ov H ((180, mcl (Int32.ofNat 0) (Int32.ofNat 0) n lim a pl (km kd) nm sg (Int32.ofNat 0) qm wd td (pof pr)) :: (181, mtl ts) :: [(183, ia rd), (188, lng rn), (191, zb on)])) (some (.int (Int32.ofNat 0)), ov (ov H ((180, mcl (Int32.ofNat 0) (Int32.ofNat 0) n lim a pl (km kd) nm sg (Int32.ofNat 0) qm wd td (pof pr)) :: (181, mtl ts) :: [(183, ia rd), (188, lng rn), (191, zb on)])) ((180, M2) :: (181, mtl ts) :: [(183, ia rd), (188, lng rn), (191, zb on)])) := by
  refine FR_st rfl rfl ?_
  refine RT_step (pc2 := 1) rfl (fun _ _ => rfl) ?_
  refine ow_gf rfl rfl rfl hlen rfl ?_
  refine RT_step (pc2 := 5) rfl (fun _ _ => rfl) ?_
  refine ow_ialN rfl rfl hj (by omega) hlen rfl ?_
  refine RT_step (pc2 := 7) rfl (fun _ _ => rfl) ?_
  refine biT_ne rfl rfl ?_
  refine RT_step (pc2 := 11) rfl (fun _ _ => rfl) ?_
  refine rt_ico rfl ki_4 ?_
  refine ow_iv1 rfl rfl rfl rfl hlen rfl rfl rfl ((hm _ (ov_hl hlen) (ov_at rfl (ov_lt hlen (by decide))) (ov_at rfl (ov_lt hlen (by decide)))).up (by decide)) rfl ?_
  exact ow_irt rfl rfl rfl
theorem m_first_t {H : List AE} (hlen : Nat.ble 204 H.length = true) {ts : List Int32} {n lim a pl kd : Nat} {nm sg qm td : Int32} {wd : Int64} {pr : List Value} {rd : List Int32} {rn : List Int64} {on : List Int32} {M2 : AE} {j m P : Nat} (hj : rd[j]? = some (Int32.ofNat P)) (hj2 : j < 101) (hP : P ≠ m) (hP1 : P < 100) (hm1 : m < 100) (hm : MQt ts 2 205 [.ref 180] (mcl (Int32.ofNat 0) (Int32.ofNat 0) n lim a pl (km kd) nm sg (Int32.ofNat 0) qm wd td (pof pr)) none M2) : FR 3 252 [.ref 180, .int (Int32.ofNat j), .int (Int32.ofNat m)] (ov H ((180, mcl (Int32.ofNat 0) (Int32.ofNat 0) n lim a pl (km kd) nm sg (Int32.ofNat 0) qm wd td (pof pr)) :: (181, mtl ts) :: [(183, ia rd), (188, lng rn), (191, zb on)])) (some (.int (Int32.ofNat 1)), ov (ov H ((180, mcl (Int32.ofNat 0) (Int32.ofNat 0) n lim a pl (km kd) nm sg (Int32.ofNat 0) qm wd td (pof pr)) :: (181, mtl ts) :: [(183, ia rd), (188, lng rn), (191, zb on)])) ((180, M2) :: (181, mtl ts) :: [(183, ia rd), (188, lng rn), (191, zb on)])) := by
  refine FR_st rfl rfl ?_
  refine RT_step (pc2 := 1) rfl (fun _ _ => rfl) ?_
  refine ow_gf rfl rfl rfl hlen rfl ?_
  refine RT_step (pc2 := 5) rfl (fun _ _ => rfl) ?_
  refine ow_ialN rfl rfl hj (by omega) hlen rfl ?_
  refine RT_step (pc2 := 7) rfl (fun _ _ => rfl) ?_
  refine biF_ne rfl (n_ne hP (by omega) (by omega)) ?_
  refine RT_step (pc2 := 17) rfl (fun _ _ => rfl) ?_
  refine ow_iv0 rfl rfl rfl rfl hlen rfl rfl rfl ((hm _ (ov_hl hlen) (ov_at rfl (ov_lt hlen (by decide))) (ov_at rfl (ov_lt hlen (by decide)))).up (by decide)) rfl ?_
  refine rt_ico rfl ki_1 ?_
  exact ow_irt rfl rfl rfl
theorem m_new_1 {H : List AE} (hlen : Nat.ble 204 H.length = true) {ts : List Int32} {n lim a pl kd : Nat} {nm sg qm td : Int32} {wd : Int64} {pr : List Value} {rd : List Int32} {rn : List Int64} {on : List Int32} {M2 : AE} {s : Nat} (hk : km kd < 10) (h : (Nat.beq (km kd) 2 && nmB wd 30 0) = false) (hm : MQt ts 1 174 [.ref 180, .int (Int32.ofNat 1)] (mcl (Int32.ofNat 0) (Int32.ofNat 0) n lim a pl (km kd) nm sg (Int32.ofNat 0) qm wd td (pof pr)) (some (.int (Int32.ofNat 0))) M2) : FR 4 258 [.ref 180, .int (Int32.ofNat s)] (ov H ((180, mcl (Int32.ofNat 0) (Int32.ofNat 0) n lim a pl (km kd) nm sg (Int32.ofNat 0) qm wd td (pof pr)) :: (181, mtl ts) :: [(183, ia rd), (188, lng rn), (191, zb on)])) (some (.int (Int32.ofNat 0)), ov (ov H ((180, mcl (Int32.ofNat 0) (Int32.ofNat 0) n lim a pl (km kd) nm sg (Int32.ofNat 0) qm wd td (pof pr)) :: (181, mtl ts) :: [(183, ia rd), (188, lng rn), (191, zb on)])) ((180, M2) :: (181, mtl ts) :: [(183, ia rd), (188, lng rn), (191, zb on)])) := by
  refine FR_st rfl rfl ?_
  refine RT_step (pc2 := 1) rfl (fun _ _ => rfl) ?_
  refine ow_iv1 rfl rfl rfl rfl hlen rfl rfl rfl ((m_isName (ov_hl hlen) (ov_at rfl (ov_lt hlen (by decide))) hk).up (by decide)) rfl ?_
  refine bcT_ne rfl (b01_f h) ?_
  refine RT_step (pc2 := 8) rfl (fun _ _ => rfl) ?_
  refine rt_ico rfl ki_1 ?_
  refine ow_iv1 rfl rfl rfl rfl hlen rfl rfl rfl ((hm _ (ov_hl hlen) (ov_at rfl (ov_lt hlen (by decide))) (ov_at rfl (ov_lt hlen (by decide)))).up (by decide)) rfl ?_
  exact ow_irt rfl rfl rfl
theorem m_new_3 {H : List AE} (hlen : Nat.ble 204 H.length = true) {ts : List Int32} {n lim a pl kd : Nat} {nm sg qm td : Int32} {wd : Int64} {pr : List Value} {rd : List Int32} {rn : List Int64} {on : List Int32} {M2 : AE} {s j : Nat} (hk : km kd < 10) (h : (Nat.beq (km kd) 2 && nmB wd 30 0) = true) {P Dn : Nat} (r0 : rd[0]? = some (Int32.ofNat P)) (r1 : rd[1]? = some (Int32.ofNat Dn)) (hP : P ≤ 7) (hD : Dn ≤ 8) (ln : rn.length = 15) (hf : fd rn wd 0 P 0 = some j) (hj : j < 100) (hm : MQt ts 1 174 [.ref 180, .int (Int32.ofNat 3)] (mcl (Int32.ofNat 0) (Int32.ofNat 0) n lim a pl (km kd) nm sg (Int32.ofNat 0) qm wd td (pof pr)) (some (.int (Int32.ofNat 0))) M2) : FR 4 258 [.ref 180, .int (Int32.ofNat s)] (ov H ((180, mcl (Int32.ofNat 0) (Int32.ofNat 0) n lim a pl (km kd) nm sg (Int32.ofNat 0) qm wd td (pof pr)) :: (181, mtl ts) :: [(183, ia rd), (188, lng rn), (191, zb on)])) (some (.int (Int32.ofNat 0)), ov (ov H ((180, mcl (Int32.ofNat 0) (Int32.ofNat 0) n lim a pl (km kd) nm sg (Int32.ofNat 0) qm wd td (pof pr)) :: (181, mtl ts) :: [(183, ia rd), (188, lng rn), (191, zb on)])) ((180, M2) :: (181, mtl ts) :: [(183, ia rd), (188, lng rn), (191, zb on)])) := by
  refine FR_st rfl rfl ?_
  refine RT_step (pc2 := 1) rfl (fun _ _ => rfl) ?_
  refine ow_iv1 rfl rfl rfl rfl hlen rfl rfl rfl ((m_isName (ov_hl hlen) (ov_at rfl (ov_lt hlen (by decide))) hk).up (by decide)) rfl ?_
  refine bcF_ne rfl (b01_t h) ?_
  refine RT_step (pc2 := 14) rfl (fun _ _ => rfl) ?_
  refine ow_gf rfl rfl rfl hlen rfl ?_
  refine rt_ico rfl ki_0 ?_
  refine RT_step (pc2 := 19) rfl (fun _ _ => rfl) ?_
  refine ow_gf rfl rfl rfl hlen rfl ?_
  refine rt_ico rfl ki_0 ?_
  refine ow_ialN rfl rfl r0 (by omega) hlen rfl ?_
  refine RT_step (pc2 := 25) rfl (fun _ _ => rfl) ?_
  refine ow_gf rfl rfl rfl hlen rfl ?_
  refine ow_is1 rfl rfl rfl rfl rfl ((m_find (bs0 := 0) (cnt := P) (ov_hl hlen) (ov_at rfl (ov_lt hlen (by decide))) (by omega) (by omega)).up (by decide)) rfl ?_
  refine rt_ico rfl ki_m1 ?_
  refine biF_ne rfl (fdI_s hf hj) ?_
  refine RT_step (pc2 := 59) rfl (fun _ _ => rfl) ?_
  refine rt_ico rfl ki_3 ?_
  refine ow_iv1 rfl rfl rfl rfl hlen rfl rfl rfl ((hm _ (ov_hl hlen) (ov_at rfl (ov_lt hlen (by decide))) (ov_at rfl (ov_lt hlen (by decide)))).up (by decide)) rfl ?_
  exact ow_irt rfl rfl rfl
theorem m_new_4 {H : List AE} (hlen : Nat.ble 204 H.length = true) {ts : List Int32} {n lim a pl kd : Nat} {nm sg qm td : Int32} {wd : Int64} {pr : List Value} {rd : List Int32} {rn : List Int64} {on : List Int32} {M2 : AE} {s j : Nat} (hk : km kd < 10) (h : (Nat.beq (km kd) 2 && nmB wd 30 0) = true) {P Dn : Nat} (r0 : rd[0]? = some (Int32.ofNat P)) (r1 : rd[1]? = some (Int32.ofNat Dn)) (hP : P ≤ 7) (hD : Dn ≤ 8) (ln : rn.length = 15) (hf : fd rn wd 0 P 0 = none) (hg : fd rn wd 7 Dn 0 = some j) (hj : j < 100) (hm : MQt ts 1 174 [.ref 180, .int (Int32.ofNat 3)] (mcl (Int32.ofNat 0) (Int32.ofNat 0) n lim a pl (km kd) nm sg (Int32.ofNat 0) qm wd td (pof pr)) (some (.int (Int32.ofNat 0))) M2) : FR 4 258 [.ref 180, .int (Int32.ofNat s)] (ov H ((180, mcl (Int32.ofNat 0) (Int32.ofNat 0) n lim a pl (km kd) nm sg (Int32.ofNat 0) qm wd td (pof pr)) :: (181, mtl ts) :: [(183, ia rd), (188, lng rn), (191, zb on)])) (some (.int (Int32.ofNat 0)), ov (ov H ((180, mcl (Int32.ofNat 0) (Int32.ofNat 0) n lim a pl (km kd) nm sg (Int32.ofNat 0) qm wd td (pof pr)) :: (181, mtl ts) :: [(183, ia rd), (188, lng rn), (191, zb on)])) ((180, M2) :: (181, mtl ts) :: [(183, ia rd), (188, lng rn), (191, zb on)])) := by
  refine FR_st rfl rfl ?_
  refine RT_step (pc2 := 1) rfl (fun _ _ => rfl) ?_
  refine ow_iv1 rfl rfl rfl rfl hlen rfl rfl rfl ((m_isName (ov_hl hlen) (ov_at rfl (ov_lt hlen (by decide))) hk).up (by decide)) rfl ?_
  refine bcF_ne rfl (b01_t h) ?_
  refine RT_step (pc2 := 14) rfl (fun _ _ => rfl) ?_
  refine ow_gf rfl rfl rfl hlen rfl ?_
  refine rt_ico rfl ki_0 ?_
  refine RT_step (pc2 := 19) rfl (fun _ _ => rfl) ?_
  refine ow_gf rfl rfl rfl hlen rfl ?_
  refine rt_ico rfl ki_0 ?_
  refine ow_ialN rfl rfl r0 (by omega) hlen rfl ?_
  refine RT_step (pc2 := 25) rfl (fun _ _ => rfl) ?_
  refine ow_gf rfl rfl rfl hlen rfl ?_
  refine ow_is1 rfl rfl rfl rfl rfl ((m_find (bs0 := 0) (cnt := P) (ov_hl hlen) (ov_at rfl (ov_lt hlen (by decide))) (by omega) (by omega)).up (by decide)) rfl ?_
  refine rt_ico rfl ki_m1 ?_
  refine biT_ne rfl (fdI_n hf) ?_
  refine RT_step (pc2 := 36) rfl (fun _ _ => rfl) ?_
  refine ow_gf rfl rfl rfl hlen rfl ?_
  refine rt_bip rfl k8_7 ?_
  refine RT_step (pc2 := 42) rfl (fun _ _ => rfl) ?_
  refine ow_gf rfl rfl rfl hlen rfl ?_
  refine rt_ico rfl ki_1 ?_
  refine ow_ialN rfl rfl r1 (by omega) hlen rfl ?_
  refine RT_step (pc2 := 48) rfl (fun _ _ => rfl) ?_
  refine ow_gf rfl rfl rfl hlen rfl ?_
  refine ow_is1 rfl rfl rfl rfl rfl ((m_find (bs0 := 7) (cnt := Dn) (ov_hl hlen) (ov_at rfl (ov_lt hlen (by decide))) (by omega) (by omega)).up (by decide)) rfl ?_
  refine rt_ico rfl ki_m1 ?_
  refine biF_eq rfl (fdI_s hg hj) ?_
  refine RT_step (pc2 := 59) rfl (fun _ _ => rfl) ?_
  refine rt_ico rfl ki_3 ?_
  refine ow_iv1 rfl rfl rfl rfl hlen rfl rfl rfl ((hm _ (ov_hl hlen) (ov_at rfl (ov_lt hlen (by decide))) (ov_at rfl (ov_lt hlen (by decide)))).up (by decide)) rfl ?_
  exact ow_irt rfl rfl rfl
theorem m_new_t {H : List AE} (hlen : Nat.ble 204 H.length = true) {ts : List Int32} {n lim a pl kd : Nat} {nm sg qm td : Int32} {wd : Int64} {pr : List Value} {rd : List Int32} {rn : List Int64} {on : List Int32} {M2 : AE} {s : Nat} (hk : km kd < 10) (h : (Nat.beq (km kd) 2 && nmB wd 30 0) = true) {P Dn : Nat} (r0 : rd[0]? = some (Int32.ofNat P)) (r1 : rd[1]? = some (Int32.ofNat Dn)) (hP : P ≤ 7) (hD : Dn ≤ 8) (ln : rn.length = 15) (hf : fd rn wd 0 P 0 = none) (hg : fd rn wd 7 Dn 0 = none) (hs : s < 15) (hm : MQt ts 2 205 [.ref 180] (mcl (Int32.ofNat 0) (Int32.ofNat 0) n lim a pl (km kd) nm sg (Int32.ofNat 0) qm wd td (pof pr)) none M2) : FR 4 258 [.ref 180, .int (Int32.ofNat s)] (ov H ((180, mcl (Int32.ofNat 0) (Int32.ofNat 0) n lim a pl (km kd) nm sg (Int32.ofNat 0) qm wd td (pof pr)) :: (181, mtl ts) :: [(183, ia rd), (188, lng rn), (191, zb on)])) (some (.int (Int32.ofNat 1)), ov (ov H ((180, mcl (Int32.ofNat 0) (Int32.ofNat 0) n lim a pl (km kd) nm sg (Int32.ofNat 0) qm wd td (pof pr)) :: (181, mtl ts) :: [(183, ia rd), (188, lng rn), (191, zb on)])) ((180, M2) :: (181, mtl ts) :: [(183, ia rd), (188, lng (rn.set s wd)), (191, zb on)])) := by
  refine FR_st rfl rfl ?_
  refine RT_step (pc2 := 1) rfl (fun _ _ => rfl) ?_
  refine ow_iv1 rfl rfl rfl rfl hlen rfl rfl rfl ((m_isName (ov_hl hlen) (ov_at rfl (ov_lt hlen (by decide))) hk).up (by decide)) rfl ?_
  refine bcF_ne rfl (b01_t h) ?_
  refine RT_step (pc2 := 14) rfl (fun _ _ => rfl) ?_
  refine ow_gf rfl rfl rfl hlen rfl ?_
  refine rt_ico rfl ki_0 ?_
  refine RT_step (pc2 := 19) rfl (fun _ _ => rfl) ?_
  refine ow_gf rfl rfl rfl hlen rfl ?_
  refine rt_ico rfl ki_0 ?_
  refine ow_ialN rfl rfl r0 (by omega) hlen rfl ?_
  refine RT_step (pc2 := 25) rfl (fun _ _ => rfl) ?_
  refine ow_gf rfl rfl rfl hlen rfl ?_
  refine ow_is1 rfl rfl rfl rfl rfl ((m_find (bs0 := 0) (cnt := P) (ov_hl hlen) (ov_at rfl (ov_lt hlen (by decide))) (by omega) (by omega)).up (by decide)) rfl ?_
  refine rt_ico rfl ki_m1 ?_
  refine biT_ne rfl (fdI_n hf) ?_
  refine RT_step (pc2 := 36) rfl (fun _ _ => rfl) ?_
  refine ow_gf rfl rfl rfl hlen rfl ?_
  refine rt_bip rfl k8_7 ?_
  refine RT_step (pc2 := 42) rfl (fun _ _ => rfl) ?_
  refine ow_gf rfl rfl rfl hlen rfl ?_
  refine rt_ico rfl ki_1 ?_
  refine ow_ialN rfl rfl r1 (by omega) hlen rfl ?_
  refine RT_step (pc2 := 48) rfl (fun _ _ => rfl) ?_
  refine ow_gf rfl rfl rfl hlen rfl ?_
  refine ow_is1 rfl rfl rfl rfl rfl ((m_find (bs0 := 7) (cnt := Dn) (ov_hl hlen) (ov_at rfl (ov_lt hlen (by decide))) (by omega) (by omega)).up (by decide)) rfl ?_
  refine rt_ico rfl ki_m1 ?_
  refine biT_eq rfl (fdI_n hg) ?_
  refine RT_step (pc2 := 65) rfl (fun _ _ => rfl) ?_
  refine ow_gf rfl rfl rfl hlen rfl ?_
  refine RT_step (pc2 := 69) rfl (fun _ _ => rfl) ?_
  refine RT_step (pc2 := 70) rfl (fun _ _ => rfl) ?_
  refine ow_gf rfl rfl rfl hlen rfl ?_
  refine ow_lasN rfl rfl (by omega) (by omega) hlen rfl rfl ?_
  refine RT_step (pc2 := 75) rfl (fun _ _ => rfl) ?_
  refine ow_iv0 rfl rfl rfl rfl hlen rfl rfl rfl ((hm _ (ov_hl hlen) (ov_at rfl (ov_lt hlen (by decide))) (ov_at rfl (ov_lt hlen (by decide)))).up (by decide)) rfl ?_
  refine rt_ico rfl ki_1 ?_
  exact ow_irt rfl rfl rfl
theorem m_put_t {H : List AE} (hlen : Nat.ble 204 H.length = true) {ts : List Int32} {n lim a pl kd : Nat} {nm sg qm td : Int32} {wd : Int64} {pr : List Value} {rd : List Int32} {rn : List Int64} {on : List Int32} {j : Nat} (hj : j < rd.length) (hj2 : j < 101) : FR 1 244 [.ref 180, .int (Int32.ofNat j), .int (Int32.ofNat 1)] (ov H ((180, mcl (Int32.ofNat 0) (Int32.ofNat 0) n lim a pl (km kd) nm sg (Int32.ofNat 0) qm wd td (pof pr)) :: (181, mtl ts) :: [(183, ia rd), (188, lng rn), (191, zb on)])) (some (.int (Int32.ofNat 1)), ov (ov H ((180, mcl (Int32.ofNat 0) (Int32.ofNat 0) n lim a pl (km kd) nm sg (Int32.ofNat 0) qm wd td (pof pr)) :: (181, mtl ts) :: [(183, ia rd), (188, lng rn), (191, zb on)])) ((180, mcl (Int32.ofNat 0) (Int32.ofNat 0) n lim a pl (km kd) nm sg (Int32.ofNat 0) qm wd td (pof pr)) :: (181, mtl ts) :: [(183, ia (rd.set j td)), (188, lng rn), (191, zb on)])) := by
  refine FR_st rfl rfl ?_
  refine RT_step (pc2 := 1) rfl (fun _ _ => rfl) ?_
  refine bcF_eq rfl (by decide) ?_
  refine RT_step (pc2 := 5) rfl (fun _ _ => rfl) ?_
  refine ow_gf rfl rfl rfl hlen rfl ?_
  refine RT_step (pc2 := 9) rfl (fun _ _ => rfl) ?_
  refine RT_step (pc2 := 10) rfl (fun _ _ => rfl) ?_
  refine ow_gf rfl rfl rfl hlen rfl ?_
  refine ow_iasN rfl rfl hj (by omega) hlen rfl rfl ?_
  refine RT_step (pc2 := 15) rfl (fun _ _ => rfl) ?_
  exact ow_irt rfl rfl rfl
theorem m_put_f {H : List AE} {ts : List Int32} {M : AE} {rd : List Int32} {rn : List Int64} {on : List Int32} {j : Nat} : FR 1 244 [.ref 180, .int (Int32.ofNat j), .int (Int32.ofNat 0)] (ov H ((180, M) :: (181, mtl ts) :: [(183, ia rd), (188, lng rn), (191, zb on)])) (some (.int (Int32.ofNat 0)), ov (ov H ((180, M) :: (181, mtl ts) :: [(183, ia rd), (188, lng rn), (191, zb on)])) ((180, M) :: (181, mtl ts) :: [(183, ia rd), (188, lng rn), (191, zb on)])) := by
  refine FR_st rfl rfl ?_
  refine RT_step (pc2 := 1) rfl (fun _ _ => rfl) ?_
  refine bcT_eq rfl rfl ?_
  refine RT_step (pc2 := 15) rfl (fun _ _ => rfl) ?_
  exact ow_irt rfl rfl rfl
theorem m_flag_f {H : List AE} (hlen : Nat.ble 204 H.length = true) {ts : List Int32} {n lim a pl kd : Nat} {nm sg qm td : Int32} {wd : Int64} {pr : List Value} {rd : List Int32} {rn : List Int64} {on : List Int32} {wj row kk : Nat} (hk : km kd < 10) (hw : wj < 30) (h : isW (km kd) wd wj = false) : FR 4 253 [.ref 180, .int (Int32.ofNat wj), .int (Int32.ofNat row), .int (Int32.ofNat kk)] (ov H ((180, mcl (Int32.ofNat 0) (Int32.ofNat 0) n lim a pl (km kd) nm sg (Int32.ofNat 0) qm wd td (pof pr)) :: (181, mtl ts) :: [(183, ia rd), (188, lng rn), (191, zb on)])) (none, ov (ov H ((180, mcl (Int32.ofNat 0) (Int32.ofNat 0) n lim a pl (km kd) nm sg (Int32.ofNat 0) qm wd td (pof pr)) :: (181, mtl ts) :: [(183, ia rd), (188, lng rn), (191, zb on)])) ((180, mcl (Int32.ofNat 0) (Int32.ofNat 0) n lim a pl (km kd) nm sg (Int32.ofNat 0) qm wd td (pof pr)) :: (181, mtl ts) :: [(183, ia rd), (188, lng rn), (191, zb on)])) := by
  refine FR_st rfl rfl ?_
  refine RT_step (pc2 := 1) rfl (fun _ _ => rfl) ?_
  refine RT_step (pc2 := 2) rfl (fun _ _ => rfl) ?_
  refine ow_iv1 rfl rfl rfl rfl hlen rfl rfl rfl ((m_isWord (ov_hl hlen) (ov_at rfl (ov_lt hlen (by decide))) hk (by omega)).up (by decide)) rfl ?_
  refine bcT_ne rfl (b01_f h) ?_
  exact ow_ret rfl rfl rfl
theorem m_flag_t {H : List AE} (hlen : Nat.ble 204 H.length = true) {ts : List Int32} {n lim a pl kd : Nat} {nm sg qm td : Int32} {wd : Int64} {pr : List Value} {rd : List Int32} {rn : List Int64} {on : List Int32} {M2 : AE} {wj row kk : Nat} (hk : km kd < 10) (hw : wj < 30) (h : isW (km kd) wd wj = true) {xv : Nat} (hr : rd[row]? = some (Int32.ofNat xv)) (hr2 : row < 101) (lr : rd.length = 101) (hx : xv < 256) (hkk : kk < 8) (hm : MQt ts 2 205 [.ref 180] (mcl (Int32.ofNat 0) (Int32.ofNat 0) n lim a pl (km kd) nm sg (Int32.ofNat 0) qm wd td (pof pr)) none M2) : FR 4 253 [.ref 180, .int (Int32.ofNat wj), .int (Int32.ofNat row), .int (Int32.ofNat kk)] (ov H ((180, mcl (Int32.ofNat 0) (Int32.ofNat 0) n lim a pl (km kd) nm sg (Int32.ofNat 0) qm wd td (pof pr)) :: (181, mtl ts) :: [(183, ia rd), (188, lng rn), (191, zb on)])) (none, ov (ov H ((180, mcl (Int32.ofNat 0) (Int32.ofNat 0) n lim a pl (km kd) nm sg (Int32.ofNat 0) qm wd td (pof pr)) :: (181, mtl ts) :: [(183, ia rd), (188, lng rn), (191, zb on)])) ((180, M2) :: (181, mtl ts) :: [(183, ia (rd.set row (Int32.ofNat (xv ||| 2 ^ kk)))), (188, lng rn), (191, zb on)])) := by
  refine FR_st rfl rfl ?_
  refine RT_step (pc2 := 1) rfl (fun _ _ => rfl) ?_
  refine RT_step (pc2 := 2) rfl (fun _ _ => rfl) ?_
  refine ow_iv1 rfl rfl rfl rfl hlen rfl rfl rfl ((m_isWord (ov_hl hlen) (ov_at rfl (ov_lt hlen (by decide))) hk (by omega)).up (by decide)) rfl ?_
  refine bcF_ne rfl (b01_t h) ?_
  refine RT_step (pc2 := 10) rfl (fun _ _ => rfl) ?_
  refine ow_gf rfl rfl rfl hlen rfl ?_
  refine RT_step (pc2 := 14) rfl (fun _ _ => rfl) ?_
  refine RT_step (pc2 := 15) rfl (fun _ _ => rfl) ?_
  refine ow_ialN rfl rfl hr (by omega) hlen rfl ?_
  refine rt_ico rfl ki_1 ?_
  refine RT_step (pc2 := 18) rfl (fun _ _ => rfl) ?_
  refine ba_ishl rfl ?_
  refine ba_ior rfl ?_
  rw [or_1 kk hkk xv hx]
  refine ow_iasN rfl rfl (by omega) (by omega) hlen rfl rfl ?_
  refine RT_step (pc2 := 22) rfl (fun _ _ => rfl) ?_
  refine ow_iv0 rfl rfl rfl rfl hlen rfl rfl rfl ((hm _ (ov_hl hlen) (ov_at rfl (ov_lt hlen (by decide))) (ov_at rfl (ov_lt hlen (by decide)))).up (by decide)) rfl ?_
  exact ow_ret rfl rfl rfl
theorem m_one_1 {H : List AE} (hlen : Nat.ble 204 H.length = true) {ts : List Int32} {n lim a pl kd : Nat} {nm sg qm td : Int32} {wd : Int64} {pr : List Value} {rd : List Int32} {rn : List Int64} {on : List Int32} {M2 : AE} (hk : km kd < 10) (h : (Nat.beq (km kd) 2 && nmB wd 30 0) = false) (hm : MQt ts 1 174 [.ref 180, .int (Int32.ofNat 1)] (mcl (Int32.ofNat 0) (Int32.ofNat 0) n lim a pl (km kd) nm sg (Int32.ofNat 0) qm wd td (pof pr)) (some (.int (Int32.ofNat 0))) M2) : FR 4 222 [.ref 180] (ov H ((180, mcl (Int32.ofNat 0) (Int32.ofNat 0) n lim a pl (km kd) nm sg (Int32.ofNat 0) qm wd td (pof pr)) :: (181, mtl ts) :: [(183, ia rd), (188, lng rn), (191, zb on)])) (some (.int (Int32.ofNat 0)), ov (ov H ((180, mcl (Int32.ofNat 0) (Int32.ofNat 0) n lim a pl (km kd) nm sg (Int32.ofNat 0) qm wd td (pof pr)) :: (181, mtl ts) :: [(183, ia rd), (188, lng rn), (191, zb on)])) ((180, M2) :: (181, mtl ts) :: [(183, ia rd), (188, lng rn), (191, zb on)])) := by
  refine FR_st rfl rfl ?_
  refine RT_step (pc2 := 1) rfl (fun _ _ => rfl) ?_
  refine ow_iv1 rfl rfl rfl rfl hlen rfl rfl rfl ((m_isName (ov_hl hlen) (ov_at rfl (ov_lt hlen (by decide))) hk).up (by decide)) rfl ?_
  refine bcT_ne rfl (b01_f h) ?_
  refine RT_step (pc2 := 8) rfl (fun _ _ => rfl) ?_
  refine rt_ico rfl ki_1 ?_
  refine ow_iv1 rfl rfl rfl rfl hlen rfl rfl rfl ((hm _ (ov_hl hlen) (ov_at rfl (ov_lt hlen (by decide))) (ov_at rfl (ov_lt hlen (by decide)))).up (by decide)) rfl ?_
  exact ow_irt rfl rfl rfl
theorem m_one_3 {H : List AE} (hlen : Nat.ble 204 H.length = true) {ts : List Int32} {n lim a pl kd : Nat} {nm sg qm td : Int32} {wd : Int64} {pr : List Value} {rd : List Int32} {rn : List Int64} {on : List Int32} {M2 : AE} (hk : km kd < 10) (h : (Nat.beq (km kd) 2 && nmB wd 30 0) = true) {P : Nat} (r0 : rd[0]? = some (Int32.ofNat P)) (hP : P ≤ 7) (ln : rn.length = 15) (hf : fd rn wd 0 P 0 = none) (hm : MQt ts 1 174 [.ref 180, .int (Int32.ofNat 3)] (mcl (Int32.ofNat 0) (Int32.ofNat 0) n lim a pl (km kd) nm sg (Int32.ofNat 0) qm wd (-1 : Int32) (pof pr)) (some (.int (Int32.ofNat 0))) M2) : FR 4 222 [.ref 180] (ov H ((180, mcl (Int32.ofNat 0) (Int32.ofNat 0) n lim a pl (km kd) nm sg (Int32.ofNat 0) qm wd td (pof pr)) :: (181, mtl ts) :: [(183, ia rd), (188, lng rn), (191, zb on)])) (some (.int (Int32.ofNat 0)), ov (ov H ((180, mcl (Int32.ofNat 0) (Int32.ofNat 0) n lim a pl (km kd) nm sg (Int32.ofNat 0) qm wd td (pof pr)) :: (181, mtl ts) :: [(183, ia rd), (188, lng rn), (191, zb on)])) ((180, M2) :: (181, mtl ts) :: [(183, ia rd), (188, lng rn), (191, zb on)])) := by
  refine FR_st rfl rfl ?_
  refine RT_step (pc2 := 1) rfl (fun _ _ => rfl) ?_
  refine ow_iv1 rfl rfl rfl rfl hlen rfl rfl rfl ((m_isName (ov_hl hlen) (ov_at rfl (ov_lt hlen (by decide))) hk).up (by decide)) rfl ?_
  refine bcF_ne rfl (b01_t h) ?_
  refine RT_step (pc2 := 14) rfl (fun _ _ => rfl) ?_
  refine RT_step (pc2 := 15) rfl (fun _ _ => rfl) ?_
  refine ow_gf rfl rfl rfl hlen rfl ?_
  refine rt_ico rfl ki_0 ?_
  refine RT_step (pc2 := 20) rfl (fun _ _ => rfl) ?_
  refine ow_gf rfl rfl rfl hlen rfl ?_
  refine rt_ico rfl ki_0 ?_
  refine ow_ialN rfl rfl r0 (by omega) hlen rfl ?_
  refine RT_step (pc2 := 26) rfl (fun _ _ => rfl) ?_
  refine ow_gf rfl rfl rfl hlen rfl ?_
  refine ow_is1 rfl rfl rfl rfl rfl ((m_find (bs0 := 0) (cnt := P) (ov_hl hlen) (ov_at rfl (ov_lt hlen (by decide))) (by omega) (by omega)).up (by decide)) rfl ?_
  rw [show fdI (fd rn wd 0 P 0) = (-1 : Int32) from fdI_n hf]
  refine ow_pf rfl rfl rfl rfl rfl hlen rfl rfl ?_
  refine RT_step (pc2 := 36) rfl (fun _ _ => rfl) ?_
  refine ow_gf rfl rfl rfl hlen rfl ?_
  refine rt_ico rfl ki_m1 ?_
  refine biT_ne rfl rfl ?_
  refine RT_step (pc2 := 44) rfl (fun _ _ => rfl) ?_
  refine rt_ico rfl ki_3 ?_
  refine ow_iv1 rfl rfl rfl rfl hlen rfl rfl rfl ((hm _ (ov_hl hlen) (ov_at rfl (ov_lt hlen (by decide))) (ov_at rfl (ov_lt hlen (by decide)))).up (by decide)) rfl ?_
  refine bcT_eq rfl rfl ?_
  refine rt_ico rfl ki_0 ?_
  exact ow_irt rfl rfl rfl
theorem m_one_t {H : List AE} (hlen : Nat.ble 204 H.length = true) {ts : List Int32} {n lim a pl kd : Nat} {nm sg qm td : Int32} {wd : Int64} {pr : List Value} {rd : List Int32} {rn : List Int64} {on : List Int32} (hk : km kd < 10) (h : (Nat.beq (km kd) 2 && nmB wd 30 0) = true) {P : Nat} (r0 : rd[0]? = some (Int32.ofNat P)) (hP : P ≤ 7) (ln : rn.length = 15) {j : Nat} (hf : fd rn wd 0 P 0 = some j) (hj : j < 100) : FR 4 222 [.ref 180] (ov H ((180, mcl (Int32.ofNat 0) (Int32.ofNat 0) n lim a pl (km kd) nm sg (Int32.ofNat 0) qm wd td (pof pr)) :: (181, mtl ts) :: [(183, ia rd), (188, lng rn), (191, zb on)])) (some (.int (Int32.ofNat 1)), ov (ov H ((180, mcl (Int32.ofNat 0) (Int32.ofNat 0) n lim a pl (km kd) nm sg (Int32.ofNat 0) qm wd td (pof pr)) :: (181, mtl ts) :: [(183, ia rd), (188, lng rn), (191, zb on)])) ((180, mcl (Int32.ofNat 0) (Int32.ofNat 0) n lim a pl (km kd) nm sg (Int32.ofNat 0) qm wd (Int32.ofNat j) (pof pr)) :: (181, mtl ts) :: [(183, ia rd), (188, lng rn), (191, zb on)])) := by
  refine FR_st rfl rfl ?_
  refine RT_step (pc2 := 1) rfl (fun _ _ => rfl) ?_
  refine ow_iv1 rfl rfl rfl rfl hlen rfl rfl rfl ((m_isName (ov_hl hlen) (ov_at rfl (ov_lt hlen (by decide))) hk).up (by decide)) rfl ?_
  refine bcF_ne rfl (b01_t h) ?_
  refine RT_step (pc2 := 14) rfl (fun _ _ => rfl) ?_
  refine RT_step (pc2 := 15) rfl (fun _ _ => rfl) ?_
  refine ow_gf rfl rfl rfl hlen rfl ?_
  refine rt_ico rfl ki_0 ?_
  refine RT_step (pc2 := 20) rfl (fun _ _ => rfl) ?_
  refine ow_gf rfl rfl rfl hlen rfl ?_
  refine rt_ico rfl ki_0 ?_
  refine ow_ialN rfl rfl r0 (by omega) hlen rfl ?_
  refine RT_step (pc2 := 26) rfl (fun _ _ => rfl) ?_
  refine ow_gf rfl rfl rfl hlen rfl ?_
  refine ow_is1 rfl rfl rfl rfl rfl ((m_find (bs0 := 0) (cnt := P) (ov_hl hlen) (ov_at rfl (ov_lt hlen (by decide))) (by omega) (by omega)).up (by decide)) rfl ?_
  rw [show fdI (fd rn wd 0 P 0) = Int32.ofNat j from by rw [hf]; rfl]
  refine ow_pf rfl rfl rfl rfl rfl hlen rfl rfl ?_
  refine RT_step (pc2 := 36) rfl (fun _ _ => rfl) ?_
  refine ow_gf rfl rfl rfl hlen rfl ?_
  refine rt_ico rfl ki_m1 ?_
  refine biF_ne rfl (n_m1 (by omega)) ?_
  refine rt_ico rfl ki_1 ?_
  refine RT_step (pc2 := 56) rfl (fun _ _ => rfl) ?_
  exact ow_irt rfl rfl rfl
def LR (bs ts : List Int32) (kx x : Nat) (Ax : List Value) (ky m : Nat) (Am : List Value) (T M : AE) (D R : List (Nat × AE)) (rx rm : Value) (T2 M2 : AE) (D2 R2 : List (Nat × AE)) : Prop := (∀ H : List AE, Nat.ble 204 H.length = true → FR kx x Ax (ov H ((1, T) :: (2, bcl bs) :: D)) (some rx, ov (ov H ((1, T) :: (2, bcl bs) :: D)) ((1, T2) :: (2, bcl bs) :: D2))) ∧ ∀ H : List AE, Nat.ble 204 H.length = true → FR ky m Am (ov H ((180, M) :: (181, mtl ts) :: R)) (some rm, ov (ov H ((180, M) :: (181, mtl ts) :: R)) ((180, M2) :: (181, mtl ts) :: R2))
theorem tc_mono {n lim : Nat} {po : List Value} {k k2 : Nat} {tk td : Int32} {T M : AE} (h : TC n lim po k tk td T M) (hk : k2 ≤ k) : TC n lim po k2 tk td T M := by
  obtain ⟨a, kd, pl, w, le, nu, fp, nm, sg, qm, wd, e1, e2, t1, t2, t3, t4⟩ := h
  exact ⟨a, kd, pl, w, le, nu, fp, nm, sg, qm, wd, e1, e2, t1, by omega, fun x y => by have := t3 x y; omega, t4⟩
theorem tf_td {n lim : Nat} {po : List Value} {k a kd pl w : Nat} {le : Int64} {nu tk td fp nm sg qm : Int32} {wd : Int64} (t : TF k n a kd w le nu nm sg wd) : TC n lim po k tk td (tcl n lim a kd pl w le nu tk (Int32.ofNat 0) fp) (mcl (Int32.ofNat 0) (Int32.ofNat 0) n lim a pl (km kd) nm sg (Int32.ofNat 0) qm wd td po) := ⟨a, kd, pl, w, le, nu, fp, nm, sg, qm, wd, rfl, rfl, t⟩
def SHR (R : List (Nat × AE)) : Prop := ∃ (rd : List Int32) (rn : List Int64) (on : List Int32), R = [(183, ia rd), (188, lng rn), (191, zb on)]
def SH3 (D : List (Nat × AE)) : Prop := ∃ (P : Nat) (Dn : Nat) (lw : Int32) (cl : Int32) (id : Int32) (gl : Nat) (bo : Nat) (pn : List Int64) (ri : List Int32) (lf : List Int32) (wa : List Int32) (fo : List Int32) (dn : List Int64) (ha : List Int32) (pa : List Int32) (bl : List Int32), D = [(3, dcl3 P Dn lw cl id gl bo), (4, lng pn), (5, ia ri), (6, ia lf), (7, ia wa), (8, ia fo), (9, lng dn), (10, ia ha), (11, ia pa), (12, ia bl)]
def SD3 (D R : List (Nat × AE)) : Prop := ∃ (P : Nat) (Dn : Nat) (lw : Int32) (cl : Int32) (id : Int32) (gl : Nat) (bo : Nat) (pn : List Int64) (ri : List Int32) (lf : List Int32) (wa : List Int32) (fo : List Int32) (dn : List Int64) (ha : List Int32) (pa : List Int32) (bl : List Int32) (rd : List Int32) (rn : List Int64) (on : List Int32), D = [(3, dcl3 P Dn lw cl id gl bo), (4, lng pn), (5, ia ri), (6, ia lf), (7, ia wa), (8, ia fo), (9, lng dn), (10, ia ha), (11, ia pa), (12, ia bl)] ∧ R = [(183, ia rd), (188, lng rn), (191, zb on)] ∧ DR P Dn lw cl id gl bo pn ri lf wa fo dn ha pa bl rd rn on
def SH13 (D : List (Nat × AE)) : Prop := ∃ (P : Nat) (Dn : Nat) (lw : Int32) (cl : Int32) (id : Int32) (gl : Nat) (bo : Nat) (pn : List Int64) (ri : List Int32) (lf : List Int32) (wa : List Int32) (fo : List Int32) (dn : List Int64) (ha : List Int32) (pa : List Int32) (bl : List Int32), D = [(13, dcl13 P Dn lw cl id gl bo), (14, lng pn), (15, ia ri), (16, ia lf), (17, ia wa), (18, ia fo), (19, lng dn), (20, ia ha), (21, ia pa), (22, ia bl)]
def SD13 (D R : List (Nat × AE)) : Prop := ∃ (P : Nat) (Dn : Nat) (lw : Int32) (cl : Int32) (id : Int32) (gl : Nat) (bo : Nat) (pn : List Int64) (ri : List Int32) (lf : List Int32) (wa : List Int32) (fo : List Int32) (dn : List Int64) (ha : List Int32) (pa : List Int32) (bl : List Int32) (rd : List Int32) (rn : List Int64) (on : List Int32), D = [(13, dcl13 P Dn lw cl id gl bo), (14, lng pn), (15, ia ri), (16, ia lf), (17, ia wa), (18, ia fo), (19, lng dn), (20, ia ha), (21, ia pa), (22, ia bl)] ∧ R = [(183, ia rd), (188, lng rn), (191, zb on)] ∧ DR P Dn lw cl id gl bo pn ri lf wa fo dn ha pa bl rd rn on
