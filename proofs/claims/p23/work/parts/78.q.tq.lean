/-! ===== a TOKEN, as the class reads it ===== -/
def wl (le : Int64) (c : Nat) : Int64 := le <<< ((Int32.ofNat 5).toInt64 &&& 63) ||| (Int32.ofNat c - Int32.ofNat 97 + Int32.ofNat 1).toInt64
def xrun (B : Nat → Nat) : Nat → Nat → Nat → Nat → Int64 → Int32 → Nat × Nat × Nat × Int64 × Int32
  | 0, a, lc, dc, le, nu => (a, lc, dc, le, nu)
  | r + 1, a, lc, dc, le, nu => cond (isLt (B a)) (xrun B r (a + 1) (lc + 1) dc (wl le (B a)) nu) (cond (isDg (B a)) (xrun B r (a + 1) lc (dc + 1) le (nu * Int32.ofNat 10 + (Int32.ofNat (B a) - Int32.ofNat 48))) (a, lc, dc, le, nu))
/-- which constant of Word has these letters, from i on -/
def wix (le : Int64) : Nat → Nat → Nat
  | 0, _ => 1
  | r + 1, i => if le = 0 then wix le r (i + 1) else if ev_lt.getD i 0 = le then i else wix le r (i + 1)
theorem ki_3 : Int32.ofInt 3 = Int32.ofNat 3 := by decide +kernel
theorem ki_5 : Int32.ofInt 5 = Int32.ofNat 5 := by decide +kernel
theorem x_withLetter {H : List AE} {le : Int64} {c : Nat} : FR 1 170 [.long le, .int (Int32.ofNat c)] H (some (.long (wl le c)), ov H []) := by
  refine FR_of rfl ?_
  refine RT_step (pc2 := 1) rfl (fun _ _ => rfl) ?_
  refine rt_ico rfl ki_5 ?_
  refine RT_step (pc2 := 3) rfl (fun _ _ => rfl) ?_
  refine RT_step (pc2 := 4) rfl (fun _ _ => rfl) ?_
  refine rt_bip rfl k8_97 ?_
  refine RT_step (pc2 := 7) rfl (fun _ _ => rfl) ?_
  refine rt_ico rfl ki_1 ?_
  refine RT_step (pc2 := 9) rfl (fun _ _ => rfl) ?_
  refine RT_step (pc2 := 10) rfl (fun _ _ => rfl) ?_
  refine RT_step (pc2 := 11) rfl (fun _ _ => rfl) ?_
  exact ow_lrt rfl rfl rfl
theorem x_readMark {H : List AE} {bs : List Int32} {B : Nat → Nat} (hB : BY bs B) (hlen : Nat.ble 204 H.length = true) {n lim kd pl w : Nat} {le : Int64} {nu tk fa fp : Int32} {a : Nat} (h1 : H[1]? = some (tcl n lim a kd pl w le nu tk fa fp)) (h2 : H[2]? = some (bcl bs)) (ha : a < 940) : FR 2 163 [.ref 1] H (none, ov H [(1, tcl n lim (a + 1) (cond (isMk (B a)) 3 0) pl w le (Int32.ofNat (B a)) tk fa fp)]) := by
  have hb := (hB a ha).choose_spec.2.2
  refine FR_ov (l := [(1, tcl n lim a kd pl w le nu tk fa fp), (2, bcl bs)]) (l2 := [(1, tcl n lim (a + 1) (cond (isMk (B a)) 3 0) pl w le (Int32.ofNat (B a)) tk fa fp), (2, bcl bs)]) (ov_id h1 (ov_c1 h2)) rfl (ov_2 h2) ?_
  cases hc : isMk (B a) with
  | true =>
    refine RT_step (pc2 := 1) rfl (fun _ _ => rfl) ?_
    refine RT_step (pc2 := 2) rfl (fun _ _ => rfl) ?_
    refine ow_gf rfl rfl rfl hlen rfl ?_
    refine ow_iv rfl rfl rfl rfl hlen rfl rfl rfl ((x_signAt (ov_at rfl (ov_lt hlen (by decide))) (ov_at rfl (ov_lt hlen (by decide))) hB (ov_hl hlen) ha).up (Nat.le_refl 1)) rfl ?_
    refine RT_step (pc2 := 9) rfl (fun _ _ => rfl) ?_
    refine RT_step (pc2 := 10) rfl (fun _ _ => rfl) ?_
    refine RT_step (pc2 := 11) rfl (fun _ _ => rfl) ?_
    refine ow_pf rfl rfl rfl rfl rfl hlen rfl rfl ?_
    refine RT_step (pc2 := 15) rfl (fun _ _ => rfl) ?_
    refine RT_step (pc2 := 16) rfl (fun _ _ => rfl) ?_
    refine ow_is rfl rfl rfl rfl rfl ((x_isMark hb).up (Nat.le_refl 1)) rfl ?_
    refine RT_step rfl (fun _ _ => rfl) ?_
    refine RT_el (b01_t hc) ?_
    refine rt_ico rfl ki_3 ?_
    refine RT_step (pc2 := 27) rfl (fun _ _ => rfl) ?_
    refine ow_pf rfl rfl rfl rfl rfl hlen rfl rfl ?_
    refine RT_step (pc2 := 31) rfl (fun _ _ => rfl) ?_
    refine RT_step (pc2 := 32) rfl (fun _ _ => rfl) ?_
    refine ow_gf rfl rfl rfl hlen rfl ?_
    refine rt_ico rfl ki_1 ?_
    refine RT_step (pc2 := 37) rfl (fun _ _ => rfl) ?_
    rw [n_add]
    refine ow_pf rfl rfl rfl rfl rfl hlen rfl rfl ?_
    exact ow_ret rfl rfl rfl
  | false =>
    refine RT_step (pc2 := 1) rfl (fun _ _ => rfl) ?_
    refine RT_step (pc2 := 2) rfl (fun _ _ => rfl) ?_
    refine ow_gf rfl rfl rfl hlen rfl ?_
    refine ow_iv rfl rfl rfl rfl hlen rfl rfl rfl ((x_signAt (ov_at rfl (ov_lt hlen (by decide))) (ov_at rfl (ov_lt hlen (by decide))) hB (ov_hl hlen) ha).up (Nat.le_refl 1)) rfl ?_
    refine RT_step (pc2 := 9) rfl (fun _ _ => rfl) ?_
    refine RT_step (pc2 := 10) rfl (fun _ _ => rfl) ?_
    refine RT_step (pc2 := 11) rfl (fun _ _ => rfl) ?_
    refine ow_pf rfl rfl rfl rfl rfl hlen rfl rfl ?_
    refine RT_step (pc2 := 15) rfl (fun _ _ => rfl) ?_
    refine RT_step (pc2 := 16) rfl (fun _ _ => rfl) ?_
    refine ow_is rfl rfl rfl rfl rfl ((x_isMark hb).up (Nat.le_refl 1)) rfl ?_
    refine RT_step rfl (fun _ _ => rfl) ?_
    refine RT_if (b01_f hc) ?_
    refine rt_ico rfl ki_0 ?_
    refine ow_pf rfl rfl rfl rfl rfl hlen rfl rfl ?_
    refine RT_step (pc2 := 31) rfl (fun _ _ => rfl) ?_
    refine RT_step (pc2 := 32) rfl (fun _ _ => rfl) ?_
    refine ow_gf rfl rfl rfl hlen rfl ?_
    refine rt_ico rfl ki_1 ?_
    refine RT_step (pc2 := 37) rfl (fun _ _ => rfl) ?_
    rw [n_add]
    refine ow_pf rfl rfl rfl rfl rfl hlen rfl rfl ?_
    exact ow_ret rfl rfl rfl
theorem x_run {H : List AE} {bs : List Int32} {B : Nat → Nat} (hB : BY bs B) (hlen : Nat.ble 204 H.length = true) {n lim kd pl w : Nat} {tk fa fp : Int32} (hn : n ≤ 940) {dd : Nat} (hd : 1 ≤ dd) {q : ev_R} : ∀ (r a lc dc : Nat) (le : Int64) (nu : Int32) (L : List (Nat × Value)), a + r = n → lc + r ≤ 2000 → dc + r ≤ 2000 → ev_g L 0 = some (.ref 1) → ev_g L 1 = some (.int (Int32.ofNat lc)) → ev_g L 2 = some (.int (Int32.ofNat dc)) → (∀ L2, ev_g L2 0 = some (.ref 1) → ev_g L2 1 = some (.int (Int32.ofNat (xrun B r a lc dc le nu).2.1)) → ev_g L2 2 = some (.int (Int32.ofNat (xrun B r a lc dc le nu).2.2.1)) → RT MM dd 164 88 L2 [] (ov H [(1, tcl n lim (xrun B r a lc dc le nu).1 kd pl w (xrun B r a lc dc le nu).2.2.2.1 (xrun B r a lc dc le nu).2.2.2.2 tk fa fp), (2, bcl bs)]) q) → RT MM dd 164 4 L [] (ov H [(1, tcl n lim a kd pl w le nu tk fa fp), (2, bcl bs)]) q := by
  intro r
  induction r with
  | zero =>
    intro a lc dc le nu L ha h1 h2 l0 l1 l2 h
    have ha : a = n := by omega
    subst ha
    refine rt_ald rfl l0 ?_
    refine ow_gf rfl rfl rfl hlen rfl ?_
    refine rt_ald rfl l0 ?_
    refine ow_gf rfl rfl rfl hlen rfl ?_
    refine RT_step rfl (fun _ _ => rfl) ?_
    refine RT_if (n_le (Nat.le_refl _) (by omega)) ?_
    exact h L l0 l1 l2
  | succ r ih =>
    intro a lc dc le nu L ha h1 h2 l0 l1 l2 h
    have hb := (hB a (by omega)).choose_spec.2.2
    cases hc : isLt (B a) with
    | true =>
      rw [show xrun B (r + 1) a lc dc le nu = xrun B r (a + 1) (lc + 1) dc (wl le (B a)) nu from by show cond (isLt (B a)) _ _ = _; rw [hc]; rfl] at h
      refine rt_ald rfl l0 ?_
      refine ow_gf rfl rfl rfl hlen rfl ?_
      refine rt_ald rfl l0 ?_
      refine ow_gf rfl rfl rfl hlen rfl ?_
      refine RT_step rfl (fun _ _ => rfl) ?_
      refine RT_el (n_nle (by omega) (by omega)) ?_
      refine rt_ald rfl l0 ?_
      refine rt_ald rfl l0 ?_
      refine ow_gf rfl rfl rfl hlen rfl ?_
      refine ow_iv rfl rfl rfl rfl hlen rfl rfl rfl ((x_signAt (ov_at rfl (ov_lt hlen (by decide))) (ov_at rfl (ov_lt hlen (by decide))) hB (ov_hl hlen) (show a < 940 by omega)).up hd) rfl ?_
      refine rt_ist rfl (by decide +kernel) ?_
      refine rt_ild rfl gs_n ?_
      refine ow_is rfl rfl rfl rfl rfl ((x_isLetter hb).up hd) rfl ?_
      refine RT_step rfl (fun _ _ => rfl) ?_
      refine RT_el (b01_t hc) ?_
      refine rt_inc rfl (gs_o rfl l1 rfl) (by decide +kernel) ?_
      rw [in_1]
      refine rt_ald rfl (gs_o rfl (gs_o rfl l0 rfl) rfl) ?_
      refine rt_ald rfl (gs_o rfl (gs_o rfl l0 rfl) rfl) ?_
      refine ow_gf rfl rfl rfl hlen rfl ?_
      refine rt_ild rfl (gs_o rfl gs_n rfl) ?_
      refine ow_is rfl rfl rfl rfl rfl (x_withLetter.up hd) rfl ?_
      refine ow_pf rfl rfl rfl rfl rfl hlen rfl rfl ?_
      refine RT_step (pc2 := 75) rfl (fun _ _ => rfl) ?_
      refine rt_ald rfl (gs_o rfl (gs_o rfl l0 rfl) rfl) ?_
      refine RT_step (pc2 := 77) rfl (fun _ _ => rfl) ?_
      refine ow_gf rfl rfl rfl hlen rfl ?_
      refine rt_ico rfl ki_1 ?_
      refine RT_step (pc2 := 82) rfl (fun _ _ => rfl) ?_
      rw [n_add]
      refine ow_pf rfl rfl rfl rfl rfl hlen rfl rfl ?_
      refine RT_step (pc2 := 4) rfl (fun _ _ => rfl) ?_
      exact ih (a + 1) (lc + 1) dc _ _ _ (by omega) (by omega) (by omega) (gs_o rfl (gs_o rfl l0 rfl) rfl) gs_n (gs_o rfl (gs_o rfl l2 rfl) rfl) h
    | false =>
      cases hg : isDg (B a) with
      | true =>
        rw [show xrun B (r + 1) a lc dc le nu = xrun B r (a + 1) lc (dc + 1) le (nu * Int32.ofNat 10 + (Int32.ofNat (B a) - Int32.ofNat 48)) from by show cond (isLt (B a)) _ _ = _; rw [hc, hg]; rfl] at h
        refine rt_ald rfl l0 ?_
        refine ow_gf rfl rfl rfl hlen rfl ?_
        refine rt_ald rfl l0 ?_
        refine ow_gf rfl rfl rfl hlen rfl ?_
        refine RT_step rfl (fun _ _ => rfl) ?_
        refine RT_el (n_nle (by omega) (by omega)) ?_
        refine rt_ald rfl l0 ?_
        refine rt_ald rfl l0 ?_
        refine ow_gf rfl rfl rfl hlen rfl ?_
        refine ow_iv rfl rfl rfl rfl hlen rfl rfl rfl ((x_signAt (ov_at rfl (ov_lt hlen (by decide))) (ov_at rfl (ov_lt hlen (by decide))) hB (ov_hl hlen) (show a < 940 by omega)).up hd) rfl ?_
        refine rt_ist rfl (by decide +kernel) ?_
        refine rt_ild rfl gs_n ?_
        refine ow_is rfl rfl rfl rfl rfl ((x_isLetter hb).up hd) rfl ?_
        refine RT_step rfl (fun _ _ => rfl) ?_
        refine RT_if (b01_f hc) ?_
        refine rt_ild rfl gs_n ?_
        refine ow_is rfl rfl rfl rfl rfl ((x_isDigit hb).up hd) rfl ?_
        refine RT_step rfl (fun _ _ => rfl) ?_
        refine RT_el (b01_t hg) ?_
        refine rt_inc rfl (gs_o rfl l2 rfl) (by decide +kernel) ?_
        rw [in_1]
        refine rt_ald rfl (gs_o rfl (gs_o rfl l0 rfl) rfl) ?_
        refine rt_ald rfl (gs_o rfl (gs_o rfl l0 rfl) rfl) ?_
        refine ow_gf rfl rfl rfl hlen rfl ?_
        refine rt_bip rfl k8_10 ?_
        refine RT_step (pc2 := 67) rfl (fun _ _ => rfl) ?_
        refine rt_ild rfl (gs_o rfl gs_n rfl) ?_
        refine rt_bip rfl k8_48 ?_
        refine RT_step (pc2 := 71) rfl (fun _ _ => rfl) ?_
        refine RT_step (pc2 := 72) rfl (fun _ _ => rfl) ?_
        refine ow_pf rfl rfl rfl rfl rfl hlen rfl rfl ?_
        refine rt_ald rfl (gs_o rfl (gs_o rfl l0 rfl) rfl) ?_
        refine RT_step (pc2 := 77) rfl (fun _ _ => rfl) ?_
        refine ow_gf rfl rfl rfl hlen rfl ?_
        refine rt_ico rfl ki_1 ?_
        refine RT_step (pc2 := 82) rfl (fun _ _ => rfl) ?_
        rw [n_add]
        refine ow_pf rfl rfl rfl rfl rfl hlen rfl rfl ?_
        refine RT_step (pc2 := 4) rfl (fun _ _ => rfl) ?_
        exact ih (a + 1) lc (dc + 1) _ _ _ (by omega) (by omega) (by omega) (gs_o rfl (gs_o rfl l0 rfl) rfl) (gs_o rfl (gs_o rfl l1 rfl) rfl) gs_n h
      | false =>
        rw [show xrun B (r + 1) a lc dc le nu = (a, lc, dc, le, nu) from by show cond (isLt (B a)) _ _ = _; rw [hc, hg]; rfl] at h
        refine rt_ald rfl l0 ?_
        refine ow_gf rfl rfl rfl hlen rfl ?_
        refine rt_ald rfl l0 ?_
        refine ow_gf rfl rfl rfl hlen rfl ?_
        refine RT_step rfl (fun _ _ => rfl) ?_
        refine RT_el (n_nle (by omega) (by omega)) ?_
        refine rt_ald rfl l0 ?_
        refine rt_ald rfl l0 ?_
        refine ow_gf rfl rfl rfl hlen rfl ?_
        refine ow_iv rfl rfl rfl rfl hlen rfl rfl rfl ((x_signAt (ov_at rfl (ov_lt hlen (by decide))) (ov_at rfl (ov_lt hlen (by decide))) hB (ov_hl hlen) (show a < 940 by omega)).up hd) rfl ?_
        refine rt_ist rfl (by decide +kernel) ?_
        refine rt_ild rfl gs_n ?_
        refine ow_is rfl rfl rfl rfl rfl ((x_isLetter hb).up hd) rfl ?_
        refine RT_step rfl (fun _ _ => rfl) ?_
        refine RT_if (b01_f hc) ?_
        refine rt_ild rfl gs_n ?_
        refine ow_is rfl rfl rfl rfl rfl ((x_isDigit hb).up hd) rfl ?_
        refine RT_step rfl (fun _ _ => rfl) ?_
        refine RT_if (b01_f hg) ?_
        exact h _ (gs_o rfl l0 rfl) (gs_o rfl l1 rfl) (gs_o rfl l2 rfl)
