/-! ===== a TOKEN, as the class reads it: to its end ===== -/
theorem k8_7 : (Int8.ofInt 7).toInt32 = Int32.ofNat 7 := by decide +kernel
theorem ki_2 : Int32.ofInt 2 = Int32.ofNat 2 := by decide +kernel
theorem ki_4 : Int32.ofInt 4 = Int32.ofNat 4 := by decide +kernel
theorem x_ofL {H : List AE} {le : Int64} {dd : Nat} : ∀ (r i : Nat) (L : List (Nat × Value)), i + r = 32 → ev_g L 0 = some (.long le) → ev_g L 2 = some (.int (Int32.ofNat i)) → RT MM dd 169 2 L [] H (some (.retAddr (wix le r i)), H) := by
  intro r
  induction r with
  | zero =>
    intro i L hi l0 l2
    have hi : i = 32 := by omega
    subst hi
    refine rt_ild rfl l2 ?_
    refine RT_step (pc2 := 6) rfl (fun _ _ => rfl) ?_
    refine RT_step (pc2 := 7) rfl (fun _ _ => rfl) ?_
    refine RT_step rfl (fun _ _ => rfl) ?_
    refine RT_if (n_le (a := 32) (Nat.le_refl _) (by decide)) ?_
    refine RT_step (pc2 := 44) rfl (fun _ _ => rfl) ?_
    exact ow_art rfl rfl rfl
  | succ r ih =>
    intro i L hi l0 l2
    by_cases h0 : le = 0
    · rw [show wix le (r + 1) i = wix le r (i + 1) from if_pos h0]
      refine rt_ild rfl l2 ?_
      refine RT_step (pc2 := 6) rfl (fun _ _ => rfl) ?_
      refine RT_step (pc2 := 7) rfl (fun _ _ => rfl) ?_
      refine RT_step rfl (fun _ _ => rfl) ?_
      refine RT_el (n_nle (a := 32) (by omega) (by decide)) ?_
      refine rt_lld rfl l0 ?_
      refine RT_step (pc2 := 12) rfl (fun _ _ => rfl) ?_
      refine RT_step (pc2 := 13) rfl (fun _ _ => rfl) ?_
      refine RT_step rfl (fun _ _ => rfl) ?_
      refine RT_if (lg_0 h0) ?_
      refine rt_inc rfl l2 (by decide +kernel) ?_
      rw [in_1]
      refine RT_step (pc2 := 2) rfl (fun _ _ => rfl) ?_
      exact ih (i + 1) _ (by omega) (gs_o2 rfl rfl l0) gs_n
    · by_cases h1 : ev_lt.getD i 0 = le
      · rw [show wix le (r + 1) i = i from by show (if le = 0 then _ else _) = _; rw [if_neg h0, if_pos h1]]
        refine rt_ild rfl l2 ?_
        refine RT_step (pc2 := 6) rfl (fun _ _ => rfl) ?_
        refine RT_step (pc2 := 7) rfl (fun _ _ => rfl) ?_
        refine RT_step rfl (fun _ _ => rfl) ?_
        refine RT_el (n_nle (a := 32) (by omega) (by decide)) ?_
        refine rt_lld rfl l0 ?_
        refine RT_step (pc2 := 12) rfl (fun _ _ => rfl) ?_
        refine RT_step (pc2 := 13) rfl (fun _ _ => rfl) ?_
        refine RT_step rfl (fun _ _ => rfl) ?_
        refine RT_el (lg_1 h0) ?_
        refine RT_step (pc2 := 19) rfl (fun _ _ => rfl) ?_
        refine rt_ild rfl l2 ?_
        refine rt_aal rfl (ix_nat (by omega) (by decide)) ?_
        refine rt_gwl rfl (by omega) ?_
        refine rt_lld rfl l0 ?_
        refine RT_step (pc2 := 26) rfl (fun _ _ => rfl) ?_
        refine RT_step rfl (fun _ _ => rfl) ?_
        refine RT_if (lg_0 h1) ?_
        refine RT_step (pc2 := 32) rfl (fun _ _ => rfl) ?_
        refine rt_ild rfl l2 ?_
        refine rt_aal rfl (ix_nat (by omega) (by decide)) ?_
        exact ow_art rfl rfl rfl
      · rw [show wix le (r + 1) i = wix le r (i + 1) from by show (if le = 0 then _ else _) = _; rw [if_neg h0, if_neg h1]]
        refine rt_ild rfl l2 ?_
        refine RT_step (pc2 := 6) rfl (fun _ _ => rfl) ?_
        refine RT_step (pc2 := 7) rfl (fun _ _ => rfl) ?_
        refine RT_step rfl (fun _ _ => rfl) ?_
        refine RT_el (n_nle (a := 32) (by omega) (by decide)) ?_
        refine rt_lld rfl l0 ?_
        refine RT_step (pc2 := 12) rfl (fun _ _ => rfl) ?_
        refine RT_step (pc2 := 13) rfl (fun _ _ => rfl) ?_
        refine RT_step rfl (fun _ _ => rfl) ?_
        refine RT_el (lg_1 h0) ?_
        refine RT_step (pc2 := 19) rfl (fun _ _ => rfl) ?_
        refine rt_ild rfl l2 ?_
        refine rt_aal rfl (ix_nat (by omega) (by decide)) ?_
        refine rt_gwl rfl (by omega) ?_
        refine rt_lld rfl l0 ?_
        refine RT_step (pc2 := 26) rfl (fun _ _ => rfl) ?_
        refine RT_step rfl (fun _ _ => rfl) ?_
        refine RT_el (lg_1 h1) ?_
        refine rt_inc rfl l2 (by decide +kernel) ?_
        rw [in_1]
        refine RT_step (pc2 := 2) rfl (fun _ _ => rfl) ?_
        exact ih (i + 1) _ (by omega) (gs_o2 rfl rfl l0) gs_n
theorem x_of {H : List AE} {le : Int64} : FR 1 169 [.long le] H (some (.retAddr (wix le 32 0)), ov H []) := by
  refine FR_of rfl ?_
  refine rt_ico rfl ki_0 ?_
  refine RT_step (pc2 := 2) rfl (fun _ _ => rfl) ?_
  exact x_ofL 32 0 _ rfl rfl rfl
theorem wix_lt (le : Int64) : ∀ r i, i + r = 32 → wix le r i < 32
  | 0, _, _ => by show (1 : Nat) < 32; decide
  | r + 1, i, h => by
    show (if le = 0 then wix le r (i + 1) else if ev_lt.getD i 0 = le then i else wix le r (i + 1)) < 32
    have := wix_lt le r (i + 1) (by omega)
    split
    · exact this
    · split
      · omega
      · exact this
def rrV (B : Nat → Nat) (n a w : Nat) (le : Int64) (nu : Int32) : Nat × Nat :=
  if (xrun B (n - a) a 0 0 le nu).2.2.1 = 0 ∧ (xrun B (n - a) a 0 0 le nu).2.1 ≤ 7 then (1, wix (xrun B (n - a) a 0 0 le nu).2.2.2.1 32 0) else if (xrun B (n - a) a 0 0 le nu).2.1 = 0 ∧ (xrun B (n - a) a 0 0 le nu).2.2.1 ≤ 3 then (2, w) else (0, w)
theorem xrun_le (B : Nat → Nat) : ∀ r a lc dc le nu, (xrun B r a lc dc le nu).1 ≤ a + r ∧ (xrun B r a lc dc le nu).2.1 ≤ lc + r ∧ (xrun B r a lc dc le nu).2.2.1 ≤ dc + r
  | 0, a, lc, dc, le, nu => ⟨Nat.le_refl _, Nat.le_refl _, Nat.le_refl _⟩
  | r + 1, a, lc, dc, le, nu => by
    have e : xrun B (r + 1) a lc dc le nu = cond (isLt (B a)) (xrun B r (a + 1) (lc + 1) dc (wl le (B a)) nu) (cond (isDg (B a)) (xrun B r (a + 1) lc (dc + 1) le (nu * Int32.ofNat 10 + (Int32.ofNat (B a) - Int32.ofNat 48))) (a, lc, dc, le, nu)) := rfl
    rw [e]
    cases isLt (B a) with
    | true => have := xrun_le B r (a + 1) (lc + 1) dc (wl le (B a)) nu; simp only [cond_true]; omega
    | false =>
      cases isDg (B a) with
      | true => have := xrun_le B r (a + 1) lc (dc + 1) le (nu * Int32.ofNat 10 + (Int32.ofNat (B a) - Int32.ofNat 48)); simp only [cond_true, cond_false]; omega
      | false => simp only [cond_false]; omega
theorem x_readRun {H : List AE} {bs : List Int32} {B : Nat → Nat} (hB : BY bs B) (hlen : Nat.ble 204 H.length = true) {n lim kd pl w : Nat} {le : Int64} {nu tk fa fp : Int32} {a : Nat} (h1 : H[1]? = some (tcl n lim a kd pl w le nu tk fa fp)) (h2 : H[2]? = some (bcl bs)) (ha : a ≤ n) (hn : n ≤ 940) : FR 2 164 [.ref 1] H (none, ov H [(1, tcl n lim (xrun B (n - a) a 0 0 le nu).1 (rrV B n a w le nu).1 pl (rrV B n a w le nu).2 (xrun B (n - a) a 0 0 le nu).2.2.2.1 (xrun B (n - a) a 0 0 le nu).2.2.2.2 tk fa fp)]) := by
  have hx := xrun_le B (n - a) a 0 0 le nu
  refine FR_ov (l := [(1, tcl n lim a kd pl w le nu tk fa fp), (2, bcl bs)]) (l2 := [(1, tcl n lim (xrun B (n - a) a 0 0 le nu).1 (rrV B n a w le nu).1 pl (rrV B n a w le nu).2 (xrun B (n - a) a 0 0 le nu).2.2.2.1 (xrun B (n - a) a 0 0 le nu).2.2.2.2 tk fa fp), (2, bcl bs)]) (ov_id h1 (ov_c1 h2)) rfl (ov_2 h2) ?_
  refine rt_ico rfl ki_0 ?_
  refine RT_step (pc2 := 2) rfl (fun _ _ => rfl) ?_
  refine rt_ico rfl ki_0 ?_
  refine RT_step (pc2 := 4) rfl (fun _ _ => rfl) ?_
  refine x_run hB hlen hn (Nat.le_refl 1) (n - a) a 0 0 le nu _ (by omega) (by omega) (by omega) rfl rfl rfl (fun L2 l0 l1 l2 => ?_)
  by_cases c1 : (xrun B (n - a) a 0 0 le nu).2.2.1 = 0
  · by_cases c2 : (xrun B (n - a) a 0 0 le nu).2.1 ≤ 7
    · rw [show rrV B n a w le nu = (1, wix (xrun B (n - a) a 0 0 le nu).2.2.2.1 32 0) from if_pos ⟨c1, c2⟩]
      refine rt_ild rfl l2 ?_
      refine RT_step rfl (fun _ _ => rfl) ?_
      refine RT_if (n_eq (b := 0) c1) ?_
      refine rt_ild rfl l1 ?_
      refine rt_bip rfl k8_7 ?_
      refine RT_step rfl (fun _ _ => rfl) ?_
      refine RT_el (n_nlt c2 (by omega)) ?_
      refine rt_ald rfl l0 ?_
      refine rt_ico rfl ki_1 ?_
      refine ow_pf rfl rfl rfl rfl rfl hlen rfl rfl ?_
      refine rt_ald rfl l0 ?_
      refine rt_ald rfl l0 ?_
      refine ow_gf rfl rfl rfl hlen rfl ?_
      refine ow_is rfl rfl rfl rfl rfl (x_of.up (Nat.le_refl 1)) rfl ?_
      refine ow_pf rfl rfl rfl rfl rfl hlen rfl rfl ?_
      refine RT_step (pc2 := 139) rfl (fun _ _ => rfl) ?_
      exact ow_ret rfl rfl rfl
    · by_cases c3 : (xrun B (n - a) a 0 0 le nu).2.1 = 0
      · omega
      · rw [show rrV B n a w le nu = (0, w) from by unfold rrV; rw [if_neg (fun e => c2 e.2), if_neg (fun e => c3 e.1)]]
        refine rt_ild rfl l2 ?_
        refine RT_step rfl (fun _ _ => rfl) ?_
        refine RT_if (n_eq (b := 0) c1) ?_
        refine rt_ild rfl l1 ?_
        refine rt_bip rfl k8_7 ?_
        refine RT_step rfl (fun _ _ => rfl) ?_
        refine RT_if (n_lt (by omega) (by omega)) ?_
        refine rt_ild rfl l1 ?_
        refine RT_step rfl (fun _ _ => rfl) ?_
        refine RT_el (n_ne (b := 0) c3 (by omega) (by decide)) ?_
        refine rt_ald rfl l0 ?_
        refine rt_ico rfl ki_0 ?_
        refine ow_pf rfl rfl rfl rfl rfl hlen rfl rfl ?_
        exact ow_ret rfl rfl rfl
  · by_cases c3 : (xrun B (n - a) a 0 0 le nu).2.1 = 0
    · by_cases c4 : (xrun B (n - a) a 0 0 le nu).2.2.1 ≤ 3
      · rw [show rrV B n a w le nu = (2, w) from by unfold rrV; rw [if_neg (fun e => c1 e.1), if_pos ⟨c3, c4⟩]]
        refine rt_ild rfl l2 ?_
        refine RT_step rfl (fun _ _ => rfl) ?_
        refine RT_el (n_ne (b := 0) c1 (by omega) (by decide)) ?_
        refine rt_ild rfl l1 ?_
        refine RT_step rfl (fun _ _ => rfl) ?_
        refine RT_if (n_eq (b := 0) c3) ?_
        refine rt_ild rfl l2 ?_
        refine rt_ico rfl ki_3 ?_
        refine RT_step rfl (fun _ _ => rfl) ?_
        refine RT_el (n_nlt c4 (by omega)) ?_
        refine rt_ald rfl l0 ?_
        refine rt_ico rfl ki_2 ?_
        refine ow_pf rfl rfl rfl rfl rfl hlen rfl rfl ?_
        refine RT_step (pc2 := 139) rfl (fun _ _ => rfl) ?_
        exact ow_ret rfl rfl rfl
      · rw [show rrV B n a w le nu = (0, w) from by unfold rrV; rw [if_neg (fun e => c1 e.1), if_neg (fun e => c4 e.2)]]
        refine rt_ild rfl l2 ?_
        refine RT_step rfl (fun _ _ => rfl) ?_
        refine RT_el (n_ne (b := 0) c1 (by omega) (by decide)) ?_
        refine rt_ild rfl l1 ?_
        refine RT_step rfl (fun _ _ => rfl) ?_
        refine RT_if (n_eq (b := 0) c3) ?_
        refine rt_ild rfl l2 ?_
        refine rt_ico rfl ki_3 ?_
        refine RT_step rfl (fun _ _ => rfl) ?_
        refine RT_if (n_lt (by omega) (by omega)) ?_
        refine rt_ald rfl l0 ?_
        refine rt_ico rfl ki_0 ?_
        refine ow_pf rfl rfl rfl rfl rfl hlen rfl rfl ?_
        exact ow_ret rfl rfl rfl
    · rw [show rrV B n a w le nu = (0, w) from by unfold rrV; rw [if_neg (fun e => c1 e.1), if_neg (fun e => c3 e.1)]]
      refine rt_ild rfl l2 ?_
      refine RT_step rfl (fun _ _ => rfl) ?_
      refine RT_el (n_ne (b := 0) c1 (by omega) (by decide)) ?_
      refine rt_ild rfl l1 ?_
      refine RT_step rfl (fun _ _ => rfl) ?_
      refine RT_el (n_ne (b := 0) c3 (by omega) (by decide)) ?_
      refine rt_ald rfl l0 ?_
      refine rt_ico rfl ki_0 ?_
      refine ow_pf rfl rfl rfl rfl rfl hlen rfl rfl ?_
      exact ow_ret rfl rfl rfl
/-- what advance leaves: place to go on, kind, place, word, letters, number -/
def advV (B : Nat → Nat) (n lim a : Nat) : Nat × Nat × Nat × Nat × Int64 × Int32 :=
  if lim ≤ skp B (n - a) a ∧ lim < n then (skp B (n - a) a, 0, lim, 0, 0, 0)
  else if n ≤ skp B (n - a) a then (skp B (n - a) a, 4, n, 0, 0, 0)
  else if isLt (B (skp B (n - a) a)) = true ∨ isDg (B (skp B (n - a) a)) = true then ((xrun B (n - skp B (n - a) a) (skp B (n - a) a) 0 0 0 0).1, (rrV B n (skp B (n - a) a) 0 0 0).1, skp B (n - a) a, (rrV B n (skp B (n - a) a) 0 0 0).2, (xrun B (n - skp B (n - a) a) (skp B (n - a) a) 0 0 0 0).2.2.2.1, (xrun B (n - skp B (n - a) a) (skp B (n - a) a) 0 0 0 0).2.2.2.2)
  else (skp B (n - a) a + 1, cond (isMk (B (skp B (n - a) a))) 3 0, skp B (n - a) a, 0, 0, Int32.ofNat (B (skp B (n - a) a)))
def advC (B : Nat → Nat) (n lim a : Nat) (tk fa fp : Int32) : AE := tcl n lim (advV B n lim a).1 (advV B n lim a).2.1 (advV B n lim a).2.2.1 (advV B n lim a).2.2.2.1 (advV B n lim a).2.2.2.2.1 (advV B n lim a).2.2.2.2.2 tk fa fp
theorem x_adv {H : List AE} {bs : List Int32} {B : Nat → Nat} (hB : BY bs B) (hlen : Nat.ble 204 H.length = true) {n lim kd pl w : Nat} {le : Int64} {nu tk fa fp : Int32} {a : Nat} (h1 : H[1]? = some (tcl n lim a kd pl w le nu tk fa fp)) (h2 : H[2]? = some (bcl bs)) (ha : a ≤ n) (hn : n ≤ 940) (hl : lim ≤ 940) : FR 3 155 [.ref 1] H (none, ov H [(1, advC B n lim a tk fa fp)]) := by
  have hs := skp_le B (n - a) a
  refine FR_ov (l := [(1, tcl n lim a kd pl w le nu tk fa fp), (2, bcl bs)]) (l2 := [(1, advC B n lim a tk fa fp), (2, bcl bs)]) (ov_id h1 (ov_c1 h2)) rfl (ov_2 h2) ?_
  refine RT_step (pc2 := 1) rfl (fun _ _ => rfl) ?_
  refine RT_step (pc2 := 4) rfl (fun _ _ => rfl) ?_
  refine ow_pf rfl rfl rfl rfl rfl hlen rfl rfl ?_
  refine RT_step (pc2 := 8) rfl (fun _ _ => rfl) ?_
  refine RT_step (pc2 := 9) rfl (fun _ _ => rfl) ?_
  refine ow_pf rfl rfl rfl rfl rfl hlen rfl rfl ?_
  refine RT_step (pc2 := 13) rfl (fun _ _ => rfl) ?_
  refine rt_ico rfl ki_0 ?_
  refine ow_pf rfl rfl rfl rfl rfl hlen rfl rfl ?_
  refine x_skip hB hlen hn (by decide) (n - a) a (by omega) ?_
  unfold advC
  generalize hsk : skp B (n - a) a = s at hs ⊢
  by_cases c1 : lim ≤ s
  · by_cases c2 : lim < n
    · rw [show advV B n lim a = (s, 0, lim, 0, 0, 0) from by unfold advV; rw [hsk, if_pos ⟨c1, c2⟩]]
      refine RT_step (pc2 := 56) rfl (fun _ _ => rfl) ?_
      refine RT_step (pc2 := 57) rfl (fun _ _ => rfl) ?_
      refine ow_gf rfl rfl rfl hlen rfl ?_
      refine ow_pf rfl rfl rfl rfl rfl hlen rfl rfl ?_
      refine RT_step (pc2 := 64) rfl (fun _ _ => rfl) ?_
      refine ow_gf rfl rfl rfl hlen rfl ?_
      refine RT_step (pc2 := 68) rfl (fun _ _ => rfl) ?_
      refine ow_gf rfl rfl rfl hlen rfl ?_
      refine RT_step rfl (fun _ _ => rfl) ?_
      refine RT_el (n_nlt c1 (by omega)) ?_
      refine RT_step (pc2 := 75) rfl (fun _ _ => rfl) ?_
      refine ow_gf rfl rfl rfl hlen rfl ?_
      refine RT_step (pc2 := 79) rfl (fun _ _ => rfl) ?_
      refine ow_gf rfl rfl rfl hlen rfl ?_
      refine RT_step rfl (fun _ _ => rfl) ?_
      refine RT_el (n_nle c2 (by omega)) ?_
      refine RT_step (pc2 := 86) rfl (fun _ _ => rfl) ?_
      refine rt_ico rfl ki_0 ?_
      refine ow_pf rfl rfl rfl rfl rfl hlen rfl rfl ?_
      refine RT_step (pc2 := 91) rfl (fun _ _ => rfl) ?_
      refine RT_step (pc2 := 92) rfl (fun _ _ => rfl) ?_
      refine ow_gf rfl rfl rfl hlen rfl ?_
      refine ow_pf rfl rfl rfl rfl rfl hlen rfl rfl ?_
      refine RT_step (pc2 := 167) rfl (fun _ _ => rfl) ?_
      exact ow_ret rfl rfl rfl
    · by_cases c3 : n ≤ s
      · rw [show advV B n lim a = (s, 4, n, 0, 0, 0) from by unfold advV; rw [hsk, if_neg (fun e => c2 e.2), if_pos c3]]
        refine RT_step (pc2 := 56) rfl (fun _ _ => rfl) ?_
        refine RT_step (pc2 := 57) rfl (fun _ _ => rfl) ?_
        refine ow_gf rfl rfl rfl hlen rfl ?_
        refine ow_pf rfl rfl rfl rfl rfl hlen rfl rfl ?_
        refine RT_step (pc2 := 64) rfl (fun _ _ => rfl) ?_
        refine ow_gf rfl rfl rfl hlen rfl ?_
        refine RT_step (pc2 := 68) rfl (fun _ _ => rfl) ?_
        refine ow_gf rfl rfl rfl hlen rfl ?_
        refine RT_step rfl (fun _ _ => rfl) ?_
        refine RT_el (n_nlt c1 (by omega)) ?_
        refine RT_step (pc2 := 75) rfl (fun _ _ => rfl) ?_
        refine ow_gf rfl rfl rfl hlen rfl ?_
        refine RT_step (pc2 := 79) rfl (fun _ _ => rfl) ?_
        refine ow_gf rfl rfl rfl hlen rfl ?_
        refine RT_step rfl (fun _ _ => rfl) ?_
        refine RT_if (n_le (by omega) (by omega)) ?_
        refine RT_step (pc2 := 102) rfl (fun _ _ => rfl) ?_
        refine ow_gf rfl rfl rfl hlen rfl ?_
        refine RT_step (pc2 := 106) rfl (fun _ _ => rfl) ?_
        refine ow_gf rfl rfl rfl hlen rfl ?_
        refine RT_step rfl (fun _ _ => rfl) ?_
        refine RT_el (n_nlt c3 (by omega)) ?_
        refine RT_step (pc2 := 113) rfl (fun _ _ => rfl) ?_
        refine rt_ico rfl ki_4 ?_
        refine ow_pf rfl rfl rfl rfl rfl hlen rfl rfl ?_
        refine RT_step (pc2 := 118) rfl (fun _ _ => rfl) ?_
        refine RT_step (pc2 := 119) rfl (fun _ _ => rfl) ?_
        refine ow_gf rfl rfl rfl hlen rfl ?_
        refine ow_pf rfl rfl rfl rfl rfl hlen rfl rfl ?_
        refine RT_step (pc2 := 167) rfl (fun _ _ => rfl) ?_
        exact ow_ret rfl rfl rfl
      · exfalso; omega
  · by_cases c3 : n ≤ s
    · rw [show advV B n lim a = (s, 4, n, 0, 0, 0) from by unfold advV; rw [hsk, if_neg (fun e => c1 e.1), if_pos c3]]
      refine RT_step (pc2 := 56) rfl (fun _ _ => rfl) ?_
      refine RT_step (pc2 := 57) rfl (fun _ _ => rfl) ?_
      refine ow_gf rfl rfl rfl hlen rfl ?_
      refine ow_pf rfl rfl rfl rfl rfl hlen rfl rfl ?_
      refine RT_step (pc2 := 64) rfl (fun _ _ => rfl) ?_
      refine ow_gf rfl rfl rfl hlen rfl ?_
      refine RT_step (pc2 := 68) rfl (fun _ _ => rfl) ?_
      refine ow_gf rfl rfl rfl hlen rfl ?_
      refine RT_step rfl (fun _ _ => rfl) ?_
      refine RT_if (n_lt (by omega) (by omega)) ?_
      refine RT_step (pc2 := 102) rfl (fun _ _ => rfl) ?_
      refine ow_gf rfl rfl rfl hlen rfl ?_
      refine RT_step (pc2 := 106) rfl (fun _ _ => rfl) ?_
      refine ow_gf rfl rfl rfl hlen rfl ?_
      refine RT_step rfl (fun _ _ => rfl) ?_
      refine RT_el (n_nlt c3 (by omega)) ?_
      refine RT_step (pc2 := 113) rfl (fun _ _ => rfl) ?_
      refine rt_ico rfl ki_4 ?_
      refine ow_pf rfl rfl rfl rfl rfl hlen rfl rfl ?_
      refine RT_step (pc2 := 118) rfl (fun _ _ => rfl) ?_
      refine RT_step (pc2 := 119) rfl (fun _ _ => rfl) ?_
      refine ow_gf rfl rfl rfl hlen rfl ?_
      refine ow_pf rfl rfl rfl rfl rfl hlen rfl rfl ?_
      refine RT_step (pc2 := 167) rfl (fun _ _ => rfl) ?_
      exact ow_ret rfl rfl rfl
    · have hb := (hB s (by omega)).choose_spec.2.2
      cases c4 : isLt (B s) with
      | true =>
        rw [show advV B n lim a = ((xrun B (n - s) s 0 0 0 0).1, (rrV B n s 0 0 0).1, s, (rrV B n s 0 0 0).2, (xrun B (n - s) s 0 0 0 0).2.2.2.1, (xrun B (n - s) s 0 0 0 0).2.2.2.2) from by unfold advV; rw [hsk, if_neg (fun e => c1 e.1), if_neg c3, if_pos (Or.inl c4)]]
        refine RT_step (pc2 := 56) rfl (fun _ _ => rfl) ?_
        refine RT_step (pc2 := 57) rfl (fun _ _ => rfl) ?_
        refine ow_gf rfl rfl rfl hlen rfl ?_
        refine ow_pf rfl rfl rfl rfl rfl hlen rfl rfl ?_
        refine RT_step (pc2 := 64) rfl (fun _ _ => rfl) ?_
        refine ow_gf rfl rfl rfl hlen rfl ?_
        refine RT_step (pc2 := 68) rfl (fun _ _ => rfl) ?_
        refine ow_gf rfl rfl rfl hlen rfl ?_
        refine RT_step rfl (fun _ _ => rfl) ?_
        refine RT_if (n_lt (by omega) (by omega)) ?_
        refine RT_step (pc2 := 102) rfl (fun _ _ => rfl) ?_
        refine ow_gf rfl rfl rfl hlen rfl ?_
        refine RT_step (pc2 := 106) rfl (fun _ _ => rfl) ?_
        refine ow_gf rfl rfl rfl hlen rfl ?_
        refine RT_step rfl (fun _ _ => rfl) ?_
        refine RT_if (n_lt (by omega) (by omega)) ?_
        refine RT_step (pc2 := 129) rfl (fun _ _ => rfl) ?_
        refine RT_step (pc2 := 130) rfl (fun _ _ => rfl) ?_
        refine ow_gf rfl rfl rfl hlen rfl ?_
        refine ow_iv rfl rfl rfl rfl hlen rfl rfl rfl ((x_signAt (ov_at rfl (ov_lt hlen (by decide))) (ov_at rfl (ov_lt hlen (by decide))) hB (ov_hl hlen) (show s < 940 by omega)).up (by decide)) rfl ?_
        refine ow_is rfl rfl rfl rfl rfl ((x_isLetter hb).up (by decide)) rfl ?_
        refine RT_step rfl (fun _ _ => rfl) ?_
        refine RT_el (b01_t c4) ?_
        refine RT_step (pc2 := 157) rfl (fun _ _ => rfl) ?_
        refine ow_iv rfl rfl rfl rfl hlen rfl rfl rfl ((x_readRun hB (ov_hl hlen) (ov_at rfl (ov_lt hlen (by decide))) (ov_at rfl (ov_lt hlen (by decide))) (by omega) hn).up (by decide)) rfl ?_
        refine RT_step (pc2 := 167) rfl (fun _ _ => rfl) ?_
        exact ow_ret rfl rfl rfl
      | false =>
        cases c5 : isDg (B s) with
        | true =>
          rw [show advV B n lim a = ((xrun B (n - s) s 0 0 0 0).1, (rrV B n s 0 0 0).1, s, (rrV B n s 0 0 0).2, (xrun B (n - s) s 0 0 0 0).2.2.2.1, (xrun B (n - s) s 0 0 0 0).2.2.2.2) from by unfold advV; rw [hsk, if_neg (fun e => c1 e.1), if_neg c3, if_pos (Or.inr c5)]]
          refine RT_step (pc2 := 56) rfl (fun _ _ => rfl) ?_
          refine RT_step (pc2 := 57) rfl (fun _ _ => rfl) ?_
          refine ow_gf rfl rfl rfl hlen rfl ?_
          refine ow_pf rfl rfl rfl rfl rfl hlen rfl rfl ?_
          refine RT_step (pc2 := 64) rfl (fun _ _ => rfl) ?_
          refine ow_gf rfl rfl rfl hlen rfl ?_
          refine RT_step (pc2 := 68) rfl (fun _ _ => rfl) ?_
          refine ow_gf rfl rfl rfl hlen rfl ?_
          refine RT_step rfl (fun _ _ => rfl) ?_
          refine RT_if (n_lt (by omega) (by omega)) ?_
          refine RT_step (pc2 := 102) rfl (fun _ _ => rfl) ?_
          refine ow_gf rfl rfl rfl hlen rfl ?_
          refine RT_step (pc2 := 106) rfl (fun _ _ => rfl) ?_
          refine ow_gf rfl rfl rfl hlen rfl ?_
          refine RT_step rfl (fun _ _ => rfl) ?_
          refine RT_if (n_lt (by omega) (by omega)) ?_
          refine RT_step (pc2 := 129) rfl (fun _ _ => rfl) ?_
          refine RT_step (pc2 := 130) rfl (fun _ _ => rfl) ?_
          refine ow_gf rfl rfl rfl hlen rfl ?_
          refine ow_iv rfl rfl rfl rfl hlen rfl rfl rfl ((x_signAt (ov_at rfl (ov_lt hlen (by decide))) (ov_at rfl (ov_lt hlen (by decide))) hB (ov_hl hlen) (show s < 940 by omega)).up (by decide)) rfl ?_
          refine ow_is rfl rfl rfl rfl rfl ((x_isLetter hb).up (by decide)) rfl ?_
          refine RT_step rfl (fun _ _ => rfl) ?_
          refine RT_if (b01_f c4) ?_
          refine RT_step (pc2 := 143) rfl (fun _ _ => rfl) ?_
          refine RT_step (pc2 := 144) rfl (fun _ _ => rfl) ?_
          refine ow_gf rfl rfl rfl hlen rfl ?_
          refine ow_iv rfl rfl rfl rfl hlen rfl rfl rfl ((x_signAt (ov_at rfl (ov_lt hlen (by decide))) (ov_at rfl (ov_lt hlen (by decide))) hB (ov_hl hlen) (show s < 940 by omega)).up (by decide)) rfl ?_
          refine ow_is rfl rfl rfl rfl rfl ((x_isDigit hb).up (by decide)) rfl ?_
          refine RT_step rfl (fun _ _ => rfl) ?_
          refine RT_el (b01_t c5) ?_
          refine RT_step (pc2 := 157) rfl (fun _ _ => rfl) ?_
          refine ow_iv rfl rfl rfl rfl hlen rfl rfl rfl ((x_readRun hB (ov_hl hlen) (ov_at rfl (ov_lt hlen (by decide))) (ov_at rfl (ov_lt hlen (by decide))) (by omega) hn).up (by decide)) rfl ?_
          refine RT_step (pc2 := 167) rfl (fun _ _ => rfl) ?_
          exact ow_ret rfl rfl rfl
        | false =>
          rw [show advV B n lim a = (s + 1, cond (isMk (B s)) 3 0, s, 0, 0, Int32.ofNat (B s)) from by unfold advV; rw [hsk, if_neg (fun e => c1 e.1), if_neg c3, if_neg (fun e => by rw [c4, c5] at e; rcases e with e | e <;> cases e)]]
          refine RT_step (pc2 := 56) rfl (fun _ _ => rfl) ?_
          refine RT_step (pc2 := 57) rfl (fun _ _ => rfl) ?_
          refine ow_gf rfl rfl rfl hlen rfl ?_
          refine ow_pf rfl rfl rfl rfl rfl hlen rfl rfl ?_
          refine RT_step (pc2 := 64) rfl (fun _ _ => rfl) ?_
          refine ow_gf rfl rfl rfl hlen rfl ?_
          refine RT_step (pc2 := 68) rfl (fun _ _ => rfl) ?_
          refine ow_gf rfl rfl rfl hlen rfl ?_
          refine RT_step rfl (fun _ _ => rfl) ?_
          refine RT_if (n_lt (by omega) (by omega)) ?_
          refine RT_step (pc2 := 102) rfl (fun _ _ => rfl) ?_
          refine ow_gf rfl rfl rfl hlen rfl ?_
          refine RT_step (pc2 := 106) rfl (fun _ _ => rfl) ?_
          refine ow_gf rfl rfl rfl hlen rfl ?_
          refine RT_step rfl (fun _ _ => rfl) ?_
          refine RT_if (n_lt (by omega) (by omega)) ?_
          refine RT_step (pc2 := 129) rfl (fun _ _ => rfl) ?_
          refine RT_step (pc2 := 130) rfl (fun _ _ => rfl) ?_
          refine ow_gf rfl rfl rfl hlen rfl ?_
          refine ow_iv rfl rfl rfl rfl hlen rfl rfl rfl ((x_signAt (ov_at rfl (ov_lt hlen (by decide))) (ov_at rfl (ov_lt hlen (by decide))) hB (ov_hl hlen) (show s < 940 by omega)).up (by decide)) rfl ?_
          refine ow_is rfl rfl rfl rfl rfl ((x_isLetter hb).up (by decide)) rfl ?_
          refine RT_step rfl (fun _ _ => rfl) ?_
          refine RT_if (b01_f c4) ?_
          refine RT_step (pc2 := 143) rfl (fun _ _ => rfl) ?_
          refine RT_step (pc2 := 144) rfl (fun _ _ => rfl) ?_
          refine ow_gf rfl rfl rfl hlen rfl ?_
          refine ow_iv rfl rfl rfl rfl hlen rfl rfl rfl ((x_signAt (ov_at rfl (ov_lt hlen (by decide))) (ov_at rfl (ov_lt hlen (by decide))) hB (ov_hl hlen) (show s < 940 by omega)).up (by decide)) rfl ?_
          refine ow_is rfl rfl rfl rfl rfl ((x_isDigit hb).up (by decide)) rfl ?_
          refine RT_step rfl (fun _ _ => rfl) ?_
          refine RT_if (b01_f c5) ?_
          refine RT_step (pc2 := 164) rfl (fun _ _ => rfl) ?_
          refine ow_iv rfl rfl rfl rfl hlen rfl rfl rfl ((x_readMark hB (ov_hl hlen) (ov_at rfl (ov_lt hlen (by decide))) (ov_at rfl (ov_lt hlen (by decide))) (by omega)).up (by decide)) rfl ?_
          exact ow_ret rfl rfl rfl
