theorem k8_6 : (Int8.ofInt 6).toInt32 = Int32.ofNat 6 := by decide +kernel
/-! ===== fits, whole ===== -/
theorem rm2 : ∀ n, n < 941 → Int32.ofNat n - Int32.ofNat n / Int32.ofNat 2 * Int32.ofNat 2 = Int32.ofNat (n % 2) := by decide +kernel
theorem dv2 : ∀ n, n < 941 → Int32.ofNat n / Int32.ofNat 2 = Int32.ofNat (n / 2) := by decide +kernel
theorem n_mul (a b : Nat) : Int32.ofNat a * Int32.ofNat b = Int32.ofNat (a * b) := (Int32.ofNat_mul a b).symm
theorem all_lt {P : Nat} (hP : P ≤ 7) : 2 ^ (3 * P) - 1 < 2097152 := by
  have h : 2 ^ (3 * P) ≤ 2 ^ 21 := Nat.pow_le_pow_right (by decide) (by omega)
  have : (2 : Nat) ^ 21 = 2097152 := rfl
  have := Nat.two_pow_pos (3 * P)
  omega
theorem aD_no {B : Nat → Nat} {Dn : Nat} : ∀ {r j : Nat}, aD B Dn r j = false → ∃ i, j ≤ i ∧ i < j + r ∧ ¬ B (2 * i) < Dn
  | 0, _, h => by cases h
  | r + 1, j, h => by
    by_cases c : B (2 * j) < Dn
    · have h : (decide (B (2 * j) < Dn) && aD B Dn r (j + 1)) = false := h
      rw [decide_eq_true c, Bool.true_and] at h
      obtain ⟨i, i1, i2, i3⟩ := aD_no h
      exact ⟨i, by omega, by omega, i3⟩
    · exact ⟨j, Nat.le_refl j, by omega, c⟩
theorem aO_no {B : Nat → Nat} : ∀ {r j : Nat}, aO B r j = false → ∃ i, j ≤ i ∧ i < j + r ∧ ¬ B (2 * i + 1) ≤ 1
  | 0, _, h => by cases h
  | r + 1, j, h => by
    by_cases c : B (2 * j + 1) ≤ 1
    · have h : (decide (B (2 * j + 1) ≤ 1) && aO B r (j + 1)) = false := h
      rw [decide_eq_true c, Bool.true_and] at h
      obtain ⟨i, i1, i2, i3⟩ := aO_no h
      exact ⟨i, by omega, by omega, i3⟩
    · exact ⟨j, Nat.le_refl j, by omega, c⟩
theorem aO_at {B : Nat → Nat} : ∀ {r j i : Nat}, aO B r j = true → j ≤ i → i < j + r → B (2 * i + 1) ≤ 1
  | 0, j, i, _, h1, h2 => by omega
  | r + 1, j, i, h, h1, h2 => by
    have h : (decide (B (2 * j + 1) ≤ 1) && aO B r (j + 1)) = true := h
    rw [Bool.and_eq_true] at h
    by_cases e : j = i
    · subst e; exact of_decide_eq_true h.1
    · exact aO_at h.2 (by omega) (by omega)
/-- what fits asks of the tape -/
def gdF (B : Nat → Nat) (Dn n : Nat) : Prop := ∃ m, n = 2 * m ∧ 1 ≤ m ∧ m ≤ 6 ∧ ∀ i, i < m → B (2 * i) < Dn ∧ B (2 * i + 1) ≤ 1
theorem x_fi03 {H : List AE} (hlen : Nat.ble 204 H.length = true) {s se ss : Nat} {lt fb tq gb : Int32} {n lim a kd pl w : Nat} {le : Int64} {nu tk fa fp : Int32} {P Dn gl bo : Nat} {lw cl id : Int32} {ri lf ha : List Int32} {bs : List Int32} {B : Nat → Nat} (hB : BY bs B) (hb : ∀ i, B i < 256) (hbo : bo < 256) (hP : P ≤ 7) (hD : Dn ≤ 8) (lr : ri.length = 7) (ll : lf.length = 7) (lh : ha.length = 8) (h0 : H[0]? = some (.inr (10, [.ref 1, .ref 3, .ref s, .ref 23, .ref 31, .ref 39, .ref 105, .ref se, .ref ss, .ref 120, .ref 125, .ref 129, .ref 131, .int lt, .int fb, .int tq, .int gb]))) (g1 : H[1]? = some (tcl n lim a kd pl w le nu tk fa fp)) (g2 : H[2]? = some (bcl bs)) (h1 : H[3]? = some (dcl3 P Dn lw cl id gl bo)) (h2 : H[5]? = some (ia ri)) (h3 : H[6]? = some (ia lf)) (h4 : H[10]? = some (ia ha)) (hn : n ≤ 940) (hg : ¬ gdF B Dn n) : FR 6 20 [.ref 0] H (some (.int (-1 : Int32)), ov H [(0, .inr (10, [.ref 1, .ref 3, .ref s, .ref 23, .ref 31, .ref 39, .ref 105, .ref se, .ref ss, .ref 120, .ref 125, .ref 129, .ref 131, .int lt, .int fb, .int tq, .int gb])), (1, tcl 0 lim a kd pl w le nu tk fa fp)]) := by
  refine FR_ov (l := [(0, .inr (10, [.ref 1, .ref 3, .ref s, .ref 23, .ref 31, .ref 39, .ref 105, .ref se, .ref ss, .ref 120, .ref 125, .ref 129, .ref 131, .int lt, .int fb, .int tq, .int gb])), (1, tcl n lim a kd pl w le nu tk fa fp), (2, bcl bs), (3, dcl3 P Dn lw cl id gl bo), (5, ia ri), (6, ia lf), (10, ia ha)]) (l2 := [(0, .inr (10, [.ref 1, .ref 3, .ref s, .ref 23, .ref 31, .ref 39, .ref 105, .ref se, .ref ss, .ref 120, .ref 125, .ref 129, .ref 131, .int lt, .int fb, .int tq, .int gb])), (1, tcl 0 lim a kd pl w le nu tk fa fp), (2, bcl bs), (3, dcl3 P Dn lw cl id gl bo), (5, ia ri), (6, ia lf), (10, ia ha)]) (ov_id h0 (ov_id g1 (ov_id g2 (ov_id h1 (ov_id h2 (ov_id h3 (ov_c1 h4))))))) rfl (congrArg (fun z : List AE => (z.set 1 _).set 0 _) (ov_id g2 (ov_id h1 (ov_id h2 (ov_id h3 (ov_c1 h4)))))) ?_
  by_cases c1 : n < 2
  · refine RT_step (pc2 := 1) rfl (fun _ _ => rfl) ?_
    refine ow_gf rfl rfl rfl hlen rfl ?_
    refine ow_gf rfl rfl rfl hlen rfl ?_
    refine RT_step (pc2 := 8) rfl (fun _ _ => rfl) ?_
    refine RT_step (pc2 := 9) rfl (fun _ _ => rfl) ?_
    refine rt_ico rfl ki_2 ?_
    refine biT_lt rfl (n_lt c1 (by decide)) ?_
    refine rt_ico rfl ki_0 ?_
    refine RT_step (pc2 := 46) rfl (fun _ _ => rfl) ?_
    refine RT_step (pc2 := 47) rfl (fun _ _ => rfl) ?_
    refine ow_gf rfl rfl rfl hlen rfl ?_
    refine rt_ico rfl ki_0 ?_
    refine ow_pf rfl rfl rfl rfl rfl hlen rfl rfl ?_
    refine RT_step (pc2 := 55) rfl (fun _ _ => rfl) ?_
    refine bcT_ne rfl rfl ?_
    refine rt_ico rfl ki_m1 ?_
    exact ow_irt rfl rfl rfl
  · by_cases c2 : 12 < n
    · refine RT_step (pc2 := 1) rfl (fun _ _ => rfl) ?_
      refine ow_gf rfl rfl rfl hlen rfl ?_
      refine ow_gf rfl rfl rfl hlen rfl ?_
      refine RT_step (pc2 := 8) rfl (fun _ _ => rfl) ?_
      refine RT_step (pc2 := 9) rfl (fun _ _ => rfl) ?_
      refine rt_ico rfl ki_2 ?_
      refine biF_lt rfl (n_nlt (by omega) (by omega)) ?_
      refine RT_step (pc2 := 14) rfl (fun _ _ => rfl) ?_
      refine rt_bip rfl k8_12 ?_
      refine biT_gt rfl (n_lt c2 (by omega)) ?_
      refine rt_ico rfl ki_0 ?_
      refine RT_step (pc2 := 46) rfl (fun _ _ => rfl) ?_
      refine RT_step (pc2 := 47) rfl (fun _ _ => rfl) ?_
      refine ow_gf rfl rfl rfl hlen rfl ?_
      refine rt_ico rfl ki_0 ?_
      refine ow_pf rfl rfl rfl rfl rfl hlen rfl rfl ?_
      refine RT_step (pc2 := 55) rfl (fun _ _ => rfl) ?_
      refine bcT_ne rfl rfl ?_
      refine rt_ico rfl ki_m1 ?_
      exact ow_irt rfl rfl rfl
    · by_cases c3 : n % 2 = 0
      · obtain ⟨m, hm⟩ : ∃ m, n = 2 * m := ⟨n / 2, by omega⟩
        have ctd := x_td3 (H := ov H [(0, .inr (10, [.ref 1, .ref 3, .ref s, .ref 23, .ref 31, .ref 39, .ref 105, .ref se, .ref ss, .ref 120, .ref 125, .ref 129, .ref 131, .int lt, .int fb, .int tq, .int gb])), (1, tcl n lim a kd pl w le nu tk fa fp), (2, bcl bs), (3, dcl3 P Dn lw cl id gl bo), (5, ia ri), (6, ia lf), (10, ia ha)]) (ov_hl hlen) hB hb hD hm (by omega) (ov_at rfl (ov_lt hlen (by decide))) (ov_at rfl (ov_lt hlen (by decide))) (ov_at rfl (ov_lt hlen (by decide))) (ov_at rfl (ov_lt hlen (by decide)))
        have cto := x_to3 (H := ov H [(0, .inr (10, [.ref 1, .ref 3, .ref s, .ref 23, .ref 31, .ref 39, .ref 105, .ref se, .ref ss, .ref 120, .ref 125, .ref 129, .ref 131, .int lt, .int fb, .int tq, .int gb])), (1, tcl n lim a kd pl w le nu tk fa fp), (2, bcl bs), (3, dcl3 P Dn lw cl id gl bo), (5, ia ri), (6, ia lf), (10, ia ha)]) (ov_hl hlen) hB hb hD hm (by omega) (ov_at rfl (ov_lt hlen (by decide))) (ov_at rfl (ov_lt hlen (by decide))) (ov_at rfl (ov_lt hlen (by decide))) (ov_at rfl (ov_lt hlen (by decide)))
        cases e1 : aD B Dn m 0 with
        | false =>
          rw [e1] at ctd
          refine RT_step (pc2 := 1) rfl (fun _ _ => rfl) ?_
          refine ow_gf rfl rfl rfl hlen rfl ?_
          refine ow_gf rfl rfl rfl hlen rfl ?_
          refine RT_step (pc2 := 8) rfl (fun _ _ => rfl) ?_
          refine RT_step (pc2 := 9) rfl (fun _ _ => rfl) ?_
          refine rt_ico rfl ki_2 ?_
          refine biF_lt rfl (n_nlt (by omega) (by omega)) ?_
          refine RT_step (pc2 := 14) rfl (fun _ _ => rfl) ?_
          refine rt_bip rfl k8_12 ?_
          refine biF_gt rfl (n_nlt (by omega) (by decide)) ?_
          refine RT_step (pc2 := 20) rfl (fun _ _ => rfl) ?_
          refine rt_ico rfl ki_2 ?_
          refine rt_rem rfl (by decide) (rm2 n (by omega)) ?_
          refine bcT_ne rfl (n_eq (b := 0) c3) ?_
          refine RT_step (pc2 := 26) rfl (fun _ _ => rfl) ?_
          refine rt_ico rfl ki_2 ?_
          refine ow_iv1 (l2 := [(0, .inr (10, [.ref 1, .ref 3, .ref s, .ref 23, .ref 31, .ref 39, .ref 105, .ref se, .ref ss, .ref 120, .ref 125, .ref 129, .ref 131, .int lt, .int fb, .int tq, .int gb])), (1, tcl n lim a kd pl w le nu tk fa fp), (2, bcl bs), (3, dcl3 P Dn lw cl id gl bo), (5, ia ri), (6, ia lf), (10, ia ha)]) rfl rfl rfl rfl hlen rfl rfl rfl (ctd.up (by decide)) rfl ?_
          refine bcT_eq rfl rfl ?_
          refine rt_ico rfl ki_0 ?_
          refine RT_step (pc2 := 46) rfl (fun _ _ => rfl) ?_
          refine RT_step (pc2 := 47) rfl (fun _ _ => rfl) ?_
          refine ow_gf rfl rfl rfl hlen rfl ?_
          refine rt_ico rfl ki_0 ?_
          refine ow_pf rfl rfl rfl rfl rfl hlen rfl rfl ?_
          refine RT_step (pc2 := 55) rfl (fun _ _ => rfl) ?_
          refine bcT_ne rfl rfl ?_
          refine rt_ico rfl ki_m1 ?_
          exact ow_irt rfl rfl rfl
        | true =>
          rw [e1] at ctd
          cases e2 : aO B m 0 with
          | false =>
            rw [e2] at cto
            refine RT_step (pc2 := 1) rfl (fun _ _ => rfl) ?_
            refine ow_gf rfl rfl rfl hlen rfl ?_
            refine ow_gf rfl rfl rfl hlen rfl ?_
            refine RT_step (pc2 := 8) rfl (fun _ _ => rfl) ?_
            refine RT_step (pc2 := 9) rfl (fun _ _ => rfl) ?_
            refine rt_ico rfl ki_2 ?_
            refine biF_lt rfl (n_nlt (by omega) (by omega)) ?_
            refine RT_step (pc2 := 14) rfl (fun _ _ => rfl) ?_
            refine rt_bip rfl k8_12 ?_
            refine biF_gt rfl (n_nlt (by omega) (by decide)) ?_
            refine RT_step (pc2 := 20) rfl (fun _ _ => rfl) ?_
            refine rt_ico rfl ki_2 ?_
            refine rt_rem rfl (by decide) (rm2 n (by omega)) ?_
            refine bcT_ne rfl (n_eq (b := 0) c3) ?_
            refine RT_step (pc2 := 26) rfl (fun _ _ => rfl) ?_
            refine rt_ico rfl ki_2 ?_
            refine ow_iv1 (l2 := [(0, .inr (10, [.ref 1, .ref 3, .ref s, .ref 23, .ref 31, .ref 39, .ref 105, .ref se, .ref ss, .ref 120, .ref 125, .ref 129, .ref 131, .int lt, .int fb, .int tq, .int gb])), (1, tcl n lim a kd pl w le nu tk fa fp), (2, bcl bs), (3, dcl3 P Dn lw cl id gl bo), (5, ia ri), (6, ia lf), (10, ia ha)]) rfl rfl rfl rfl hlen rfl rfl rfl (ctd.up (by decide)) rfl ?_
            refine bcF_eq rfl (by decide) ?_
            refine RT_step (pc2 := 34) rfl (fun _ _ => rfl) ?_
            refine ow_iv1 (l2 := [(0, .inr (10, [.ref 1, .ref 3, .ref s, .ref 23, .ref 31, .ref 39, .ref 105, .ref se, .ref ss, .ref 120, .ref 125, .ref 129, .ref 131, .int lt, .int fb, .int tq, .int gb])), (1, tcl n lim a kd pl w le nu tk fa fp), (2, bcl bs), (3, dcl3 P Dn lw cl id gl bo), (5, ia ri), (6, ia lf), (10, ia ha)]) rfl rfl rfl rfl hlen rfl rfl rfl (cto.up (by decide)) rfl ?_
            refine bcT_eq rfl rfl ?_
            refine rt_ico rfl ki_0 ?_
            refine RT_step (pc2 := 46) rfl (fun _ _ => rfl) ?_
            refine RT_step (pc2 := 47) rfl (fun _ _ => rfl) ?_
            refine ow_gf rfl rfl rfl hlen rfl ?_
            refine rt_ico rfl ki_0 ?_
            refine ow_pf rfl rfl rfl rfl rfl hlen rfl rfl ?_
            refine RT_step (pc2 := 55) rfl (fun _ _ => rfl) ?_
            refine bcT_ne rfl rfl ?_
            refine rt_ico rfl ki_m1 ?_
            exact ow_irt rfl rfl rfl
          | true => exact absurd ⟨m, hm, by omega, by omega, fun i hi => ⟨aD_at e1 (Nat.zero_le i) (by omega), aO_at e2 (Nat.zero_le i) (by omega)⟩⟩ hg
      · refine RT_step (pc2 := 1) rfl (fun _ _ => rfl) ?_
        refine ow_gf rfl rfl rfl hlen rfl ?_
        refine ow_gf rfl rfl rfl hlen rfl ?_
        refine RT_step (pc2 := 8) rfl (fun _ _ => rfl) ?_
        refine RT_step (pc2 := 9) rfl (fun _ _ => rfl) ?_
        refine rt_ico rfl ki_2 ?_
        refine biF_lt rfl (n_nlt (by omega) (by omega)) ?_
        refine RT_step (pc2 := 14) rfl (fun _ _ => rfl) ?_
        refine rt_bip rfl k8_12 ?_
        refine biF_gt rfl (n_nlt (by omega) (by decide)) ?_
        refine RT_step (pc2 := 20) rfl (fun _ _ => rfl) ?_
        refine rt_ico rfl ki_2 ?_
        refine rt_rem rfl (by decide) (rm2 n (by omega)) ?_
        refine bcF_ne rfl (n_ne (b := 0) c3 (by omega) (by decide)) ?_
        refine rt_ico rfl ki_0 ?_
        refine RT_step (pc2 := 46) rfl (fun _ _ => rfl) ?_
        refine RT_step (pc2 := 47) rfl (fun _ _ => rfl) ?_
        refine ow_gf rfl rfl rfl hlen rfl ?_
        refine rt_ico rfl ki_0 ?_
        refine ow_pf rfl rfl rfl rfl rfl hlen rfl rfl ?_
        refine RT_step (pc2 := 55) rfl (fun _ _ => rfl) ?_
        refine bcT_ne rfl rfl ?_
        refine rt_ico rfl ki_m1 ?_
        exact ow_irt rfl rfl rfl
theorem x_fi13 {H : List AE} (hlen : Nat.ble 204 H.length = true) {s se ss : Nat} {lt fb tq gb : Int32} {n lim a kd pl w : Nat} {le : Int64} {nu tk fa fp : Int32} {P Dn gl bo : Nat} {lw cl id : Int32} {ri lf ha : List Int32} {bs : List Int32} {B : Nat → Nat} (hB : BY bs B) (hb : ∀ i, B i < 256) (hbo : bo < 256) (hP : P ≤ 7) (hD : Dn ≤ 8) (lr : ri.length = 7) (ll : lf.length = 7) (lh : ha.length = 8) (h0 : H[0]? = some (.inr (10, [.ref 1, .ref 3, .ref s, .ref 23, .ref 31, .ref 39, .ref 105, .ref se, .ref ss, .ref 120, .ref 125, .ref 129, .ref 131, .int lt, .int fb, .int tq, .int gb]))) (g1 : H[1]? = some (tcl n lim a kd pl w le nu tk fa fp)) (g2 : H[2]? = some (bcl bs)) (h1 : H[3]? = some (dcl3 P Dn lw cl id gl bo)) (h2 : H[5]? = some (ia ri)) (h3 : H[6]? = some (ia lf)) (h4 : H[10]? = some (ia ha)) {m : Nat} (hn : n = 2 * m) (hm1 : 1 ≤ m) (hm : m ≤ 6) (hg : ∀ i, i < m → B (2 * i) < Dn ∧ B (2 * i + 1) ≤ 1) (hz : (fbL (fun d => cbL (KK' bo d ri lf ha) (3 * P) 0 0) B m 0 (2 ^ (3 * P) - 1)) = 0) : FR 6 20 [.ref 0] H (some (.int (Int32.ofNat (cnt (fbL (fun d => cbL (KK' bo d ri lf ha) (3 * P) 0 0) B m 0 (2 ^ (3 * P) - 1)) 21))), ov H [(0, .inr (10, [.ref 1, .ref 3, .ref s, .ref 23, .ref 31, .ref 39, .ref 105, .ref se, .ref ss, .ref 120, .ref 125, .ref 129, .ref 131, .int lt, .int fb, .int tq, .int gb])), (1, tcl 0 lim a kd pl w le nu tk fa fp)]) := by
  have hal := all_lt hP
  have hbb : (fbL (fun d => cbL (KK' bo d ri lf ha) (3 * P) 0 0) B m 0 (2 ^ (3 * P) - 1)) < 2097152 := fb_lt (m := 21) hal
  have e1 : aD B Dn m 0 = true := by
    cases e : aD B Dn m 0 with
    | true => rfl
    | false =>
      obtain ⟨i, -, i2, i3⟩ := aD_no e
      exact absurd (hg i (by omega)).1 i3
  have e2 : aO B m 0 = true := by
    cases e : aO B m 0 with
    | true => rfl
    | false =>
      obtain ⟨i, -, i2, i3⟩ := aO_no e
      exact absurd (hg i (by omega)).2 i3
  have ctd := x_td3 (H := ov H [(0, .inr (10, [.ref 1, .ref 3, .ref s, .ref 23, .ref 31, .ref 39, .ref 105, .ref se, .ref ss, .ref 120, .ref 125, .ref 129, .ref 131, .int lt, .int fb, .int tq, .int gb])), (1, tcl n lim a kd pl w le nu tk fa fp), (2, bcl bs), (3, dcl3 P Dn lw cl id gl bo), (5, ia ri), (6, ia lf), (10, ia ha)]) (ov_hl hlen) hB hb hD hn (by omega) (ov_at rfl (ov_lt hlen (by decide))) (ov_at rfl (ov_lt hlen (by decide))) (ov_at rfl (ov_lt hlen (by decide))) (ov_at rfl (ov_lt hlen (by decide)))
  have cto := x_to3 (H := ov H [(0, .inr (10, [.ref 1, .ref 3, .ref s, .ref 23, .ref 31, .ref 39, .ref 105, .ref se, .ref ss, .ref 120, .ref 125, .ref 129, .ref 131, .int lt, .int fb, .int tq, .int gb])), (1, tcl n lim a kd pl w le nu tk fa fp), (2, bcl bs), (3, dcl3 P Dn lw cl id gl bo), (5, ia ri), (6, ia lf), (10, ia ha)]) (ov_hl hlen) hB hb hD hn (by omega) (ov_at rfl (ov_lt hlen (by decide))) (ov_at rfl (ov_lt hlen (by decide))) (ov_at rfl (ov_lt hlen (by decide))) (ov_at rfl (ov_lt hlen (by decide)))
  rw [e1] at ctd
  rw [e2] at cto
  have cah := x_ah3 (H := ov H [(0, .inr (10, [.ref 1, .ref 3, .ref s, .ref 23, .ref 31, .ref 39, .ref 105, .ref se, .ref ss, .ref 120, .ref 125, .ref 129, .ref 131, .int lt, .int fb, .int tq, .int gb])), (1, tcl 0 lim a kd pl w le nu tk fa fp), (2, bcl bs), (3, dcl3 P Dn lw cl id gl bo), (5, ia ri), (6, ia lf), (10, ia ha)]) (ov_hl hlen) hP (ov_at rfl (ov_lt hlen (by decide)))
  have cbc := x_bc (H := ov H [(0, .inr (10, [.ref 1, .ref 3, .ref s, .ref 23, .ref 31, .ref 39, .ref 105, .ref se, .ref ss, .ref 120, .ref 125, .ref 129, .ref 131, .int lt, .int fb, .int tq, .int gb])), (1, tcl 0 lim a kd pl w le nu tk fa fp), (2, bcl bs), (3, dcl3 P Dn lw cl id gl bo), (5, ia ri), (6, ia lf), (10, ia ha)]) (Int32.ofNat (fbL (fun d => cbL (KK' bo d ri lf ha) (3 * P) 0 0) B m 0 (2 ^ (3 * P) - 1)))
  rw [bc_21 hbb] at cbc
  refine FR_ov (l := [(0, .inr (10, [.ref 1, .ref 3, .ref s, .ref 23, .ref 31, .ref 39, .ref 105, .ref se, .ref ss, .ref 120, .ref 125, .ref 129, .ref 131, .int lt, .int fb, .int tq, .int gb])), (1, tcl n lim a kd pl w le nu tk fa fp), (2, bcl bs), (3, dcl3 P Dn lw cl id gl bo), (5, ia ri), (6, ia lf), (10, ia ha)]) (l2 := [(0, .inr (10, [.ref 1, .ref 3, .ref s, .ref 23, .ref 31, .ref 39, .ref 105, .ref se, .ref ss, .ref 120, .ref 125, .ref 129, .ref 131, .int lt, .int fb, .int tq, .int gb])), (1, tcl 0 lim a kd pl w le nu tk fa fp), (2, bcl bs), (3, dcl3 P Dn lw cl id gl bo), (5, ia ri), (6, ia lf), (10, ia ha)]) (ov_id h0 (ov_id g1 (ov_id g2 (ov_id h1 (ov_id h2 (ov_id h3 (ov_c1 h4))))))) rfl (congrArg (fun z : List AE => (z.set 1 _).set 0 _) (ov_id g2 (ov_id h1 (ov_id h2 (ov_id h3 (ov_c1 h4)))))) ?_
  refine RT_step (pc2 := 1) rfl (fun _ _ => rfl) ?_
  refine ow_gf rfl rfl rfl hlen rfl ?_
  refine ow_gf rfl rfl rfl hlen rfl ?_
  refine RT_step (pc2 := 8) rfl (fun _ _ => rfl) ?_
  refine RT_step (pc2 := 9) rfl (fun _ _ => rfl) ?_
  refine rt_ico rfl ki_2 ?_
  refine biF_lt rfl (n_nlt (by omega) (by omega)) ?_
  refine RT_step (pc2 := 14) rfl (fun _ _ => rfl) ?_
  refine rt_bip rfl k8_12 ?_
  refine biF_gt rfl (n_nlt (by omega) (by decide)) ?_
  refine RT_step (pc2 := 20) rfl (fun _ _ => rfl) ?_
  refine rt_ico rfl ki_2 ?_
  refine rt_rem rfl (by decide) (rm2 n (by omega)) ?_
  refine bcT_ne rfl (n_eq (b := 0) (by omega)) ?_
  refine RT_step (pc2 := 26) rfl (fun _ _ => rfl) ?_
  refine rt_ico rfl ki_2 ?_
  refine ow_iv1 (l2 := [(0, .inr (10, [.ref 1, .ref 3, .ref s, .ref 23, .ref 31, .ref 39, .ref 105, .ref se, .ref ss, .ref 120, .ref 125, .ref 129, .ref 131, .int lt, .int fb, .int tq, .int gb])), (1, tcl n lim a kd pl w le nu tk fa fp), (2, bcl bs), (3, dcl3 P Dn lw cl id gl bo), (5, ia ri), (6, ia lf), (10, ia ha)]) rfl rfl rfl rfl hlen rfl rfl rfl (ctd.up (by decide)) rfl ?_
  refine bcF_eq rfl (by decide) ?_
  refine RT_step (pc2 := 34) rfl (fun _ _ => rfl) ?_
  refine ow_iv1 (l2 := [(0, .inr (10, [.ref 1, .ref 3, .ref s, .ref 23, .ref 31, .ref 39, .ref 105, .ref se, .ref ss, .ref 120, .ref 125, .ref 129, .ref 131, .int lt, .int fb, .int tq, .int gb])), (1, tcl n lim a kd pl w le nu tk fa fp), (2, bcl bs), (3, dcl3 P Dn lw cl id gl bo), (5, ia ri), (6, ia lf), (10, ia ha)]) rfl rfl rfl rfl hlen rfl rfl rfl (cto.up (by decide)) rfl ?_
  refine bcF_eq rfl (by decide) ?_
  refine rt_ico rfl ki_1 ?_
  refine RT_step (pc2 := 45) rfl (fun _ _ => rfl) ?_
  refine RT_step (pc2 := 46) rfl (fun _ _ => rfl) ?_
  refine RT_step (pc2 := 47) rfl (fun _ _ => rfl) ?_
  refine ow_gf rfl rfl rfl hlen rfl ?_
  refine rt_ico rfl ki_0 ?_
  refine ow_pf rfl rfl rfl rfl rfl hlen rfl rfl ?_
  refine RT_step (pc2 := 55) rfl (fun _ _ => rfl) ?_
  refine bcF_ne rfl (show ¬ Int32.ofNat 1 = 0 by decide) ?_
  refine RT_step (pc2 := 61) rfl (fun _ _ => rfl) ?_
  refine ow_gf rfl rfl rfl hlen rfl ?_
  refine ow_iv1 (l2 := [(0, .inr (10, [.ref 1, .ref 3, .ref s, .ref 23, .ref 31, .ref 39, .ref 105, .ref se, .ref ss, .ref 120, .ref 125, .ref 129, .ref 131, .int lt, .int fb, .int tq, .int gb])), (1, tcl 0 lim a kd pl w le nu tk fa fp), (2, bcl bs), (3, dcl3 P Dn lw cl id gl bo), (5, ia ri), (6, ia lf), (10, ia ha)]) rfl rfl rfl rfl hlen rfl rfl rfl (cah.up (by decide)) rfl ?_
  refine RT_step (pc2 := 68) rfl (fun _ _ => rfl) ?_
  refine rt_ico rfl ki_0 ?_
  refine RT_step (pc2 := 71) rfl (fun _ _ => rfl) ?_
  refine x_fiL3 (dd := 1) hlen hB hb hbo hP hD lr ll lh hm (fun i hi => (hg i hi).1) m 0 _ _ (by omega) hal rfl (by subst hn; rfl) rfl rfl (fun L2 l0 l3 => ?_)
  refine rt_ild rfl l3 ?_
  refine bcT_eq rfl (n_eq (b := 0) hz) ?_
  refine rt_ild rfl l3 ?_
  refine ow_is1 (l2 := [(0, .inr (10, [.ref 1, .ref 3, .ref s, .ref 23, .ref 31, .ref 39, .ref 105, .ref se, .ref ss, .ref 120, .ref 125, .ref 129, .ref 131, .int lt, .int fb, .int tq, .int gb])), (1, tcl 0 lim a kd pl w le nu tk fa fp), (2, bcl bs), (3, dcl3 P Dn lw cl id gl bo), (5, ia ri), (6, ia lf), (10, ia ha)]) rfl rfl rfl rfl rfl (cbc.up (by decide)) rfl ?_
  exact ow_irt rfl rfl rfl
theorem x_fi23 {H : List AE} (hlen : Nat.ble 204 H.length = true) {s se ss : Nat} {lt fb tq gb : Int32} {n lim a kd pl w : Nat} {le : Int64} {nu tk fa fp : Int32} {P Dn gl bo : Nat} {lw cl id : Int32} {ri lf ha : List Int32} {bs : List Int32} {B : Nat → Nat} (hB : BY bs B) (hb : ∀ i, B i < 256) (hbo : bo < 256) (hP : P ≤ 7) (hD : Dn ≤ 8) (lr : ri.length = 7) (ll : lf.length = 7) (lh : ha.length = 8) (h0 : H[0]? = some (.inr (10, [.ref 1, .ref 3, .ref s, .ref 23, .ref 31, .ref 39, .ref 105, .ref se, .ref ss, .ref 120, .ref 125, .ref 129, .ref 131, .int lt, .int fb, .int tq, .int gb]))) (g1 : H[1]? = some (tcl n lim a kd pl w le nu tk fa fp)) (g2 : H[2]? = some (bcl bs)) (h1 : H[3]? = some (dcl3 P Dn lw cl id gl bo)) (h2 : H[5]? = some (ia ri)) (h3 : H[6]? = some (ia lf)) (h4 : H[10]? = some (ia ha)) {m : Nat} (hn : n = 2 * m) (hm1 : 1 ≤ m) (hm : m ≤ 6) (hg : ∀ i, i < m → B (2 * i) < Dn ∧ B (2 * i + 1) ≤ 1) (hz : ¬ (fbL (fun d => cbL (KK' bo d ri lf ha) (3 * P) 0 0) B m 0 (2 ^ (3 * P) - 1)) = 0) : FR 6 20 [.ref 0] H (some (.int (Int32.ofNat (cnt (fbL (fun d => cbL (KK' bo d ri lf ha) (3 * P) 0 0) B m 0 (2 ^ (3 * P) - 1)) 21))), ov H [(0, .inr (10, [.ref 1, .ref 3, .ref s, .ref 23, .ref 31, .ref 39, .ref 105, .ref se, .ref ss, .ref 120, .ref 125, .ref 129, .ref 131, .int lt, .int (Int32.ofNat (fbL (fun d => cbL (KK' bo d ri lf ha) (3 * P) 0 0) B m 0 (2 ^ (3 * P) - 1))), .int (Int32.ofNat (mnF (fun d => dif (cnt ((fbL (fun d => cbL (KK' bo d ri lf ha) (3 * P) 0 0) B m 0 (2 ^ (3 * P) - 1)) &&& cbL (KK' bo d ri lf ha) (3 * P) 0 0) 21) (cnt (fbL (fun d => cbL (KK' bo d ri lf ha) (3 * P) 0 0) B m 0 (2 ^ (3 * P) - 1)) 21)) (Dn - 1) 1 0)), .int gb])), (1, tcl 0 lim a kd pl w le nu tk fa fp)]) := by
  have hal := all_lt hP
  have hbb : (fbL (fun d => cbL (KK' bo d ri lf ha) (3 * P) 0 0) B m 0 (2 ^ (3 * P) - 1)) < 2097152 := fb_lt (m := 21) hal
  have e1 : aD B Dn m 0 = true := by
    cases e : aD B Dn m 0 with
    | true => rfl
    | false =>
      obtain ⟨i, -, i2, i3⟩ := aD_no e
      exact absurd (hg i (by omega)).1 i3
  have e2 : aO B m 0 = true := by
    cases e : aO B m 0 with
    | true => rfl
    | false =>
      obtain ⟨i, -, i2, i3⟩ := aO_no e
      exact absurd (hg i (by omega)).2 i3
  have ctd := x_td3 (H := ov H [(0, .inr (10, [.ref 1, .ref 3, .ref s, .ref 23, .ref 31, .ref 39, .ref 105, .ref se, .ref ss, .ref 120, .ref 125, .ref 129, .ref 131, .int lt, .int fb, .int tq, .int gb])), (1, tcl n lim a kd pl w le nu tk fa fp), (2, bcl bs), (3, dcl3 P Dn lw cl id gl bo), (5, ia ri), (6, ia lf), (10, ia ha)]) (ov_hl hlen) hB hb hD hn (by omega) (ov_at rfl (ov_lt hlen (by decide))) (ov_at rfl (ov_lt hlen (by decide))) (ov_at rfl (ov_lt hlen (by decide))) (ov_at rfl (ov_lt hlen (by decide)))
  have cto := x_to3 (H := ov H [(0, .inr (10, [.ref 1, .ref 3, .ref s, .ref 23, .ref 31, .ref 39, .ref 105, .ref se, .ref ss, .ref 120, .ref 125, .ref 129, .ref 131, .int lt, .int fb, .int tq, .int gb])), (1, tcl n lim a kd pl w le nu tk fa fp), (2, bcl bs), (3, dcl3 P Dn lw cl id gl bo), (5, ia ri), (6, ia lf), (10, ia ha)]) (ov_hl hlen) hB hb hD hn (by omega) (ov_at rfl (ov_lt hlen (by decide))) (ov_at rfl (ov_lt hlen (by decide))) (ov_at rfl (ov_lt hlen (by decide))) (ov_at rfl (ov_lt hlen (by decide)))
  rw [e1] at ctd
  rw [e2] at cto
  have cah := x_ah3 (H := ov H [(0, .inr (10, [.ref 1, .ref 3, .ref s, .ref 23, .ref 31, .ref 39, .ref 105, .ref se, .ref ss, .ref 120, .ref 125, .ref 129, .ref 131, .int lt, .int fb, .int tq, .int gb])), (1, tcl 0 lim a kd pl w le nu tk fa fp), (2, bcl bs), (3, dcl3 P Dn lw cl id gl bo), (5, ia ri), (6, ia lf), (10, ia ha)]) (ov_hl hlen) hP (ov_at rfl (ov_lt hlen (by decide)))
  have cbc := x_bc (H := ov H [(0, .inr (10, [.ref 1, .ref 3, .ref s, .ref 23, .ref 31, .ref 39, .ref 105, .ref se, .ref ss, .ref 120, .ref 125, .ref 129, .ref 131, .int lt, .int (Int32.ofNat (fbL (fun d => cbL (KK' bo d ri lf ha) (3 * P) 0 0) B m 0 (2 ^ (3 * P) - 1))), .int (Int32.ofNat (mnF (fun d => dif (cnt ((fbL (fun d => cbL (KK' bo d ri lf ha) (3 * P) 0 0) B m 0 (2 ^ (3 * P) - 1)) &&& cbL (KK' bo d ri lf ha) (3 * P) 0 0) 21) (cnt (fbL (fun d => cbL (KK' bo d ri lf ha) (3 * P) 0 0) B m 0 (2 ^ (3 * P) - 1)) 21)) (Dn - 1) 1 0)), .int gb])), (1, tcl 0 lim a kd pl w le nu tk fa fp), (2, bcl bs), (3, dcl3 P Dn lw cl id gl bo), (5, ia ri), (6, ia lf), (10, ia ha)]) (Int32.ofNat (fbL (fun d => cbL (KK' bo d ri lf ha) (3 * P) 0 0) B m 0 (2 ^ (3 * P) - 1)))
  rw [bc_21 hbb] at cbc
  refine FR_ov (l := [(0, .inr (10, [.ref 1, .ref 3, .ref s, .ref 23, .ref 31, .ref 39, .ref 105, .ref se, .ref ss, .ref 120, .ref 125, .ref 129, .ref 131, .int lt, .int fb, .int tq, .int gb])), (1, tcl n lim a kd pl w le nu tk fa fp), (2, bcl bs), (3, dcl3 P Dn lw cl id gl bo), (5, ia ri), (6, ia lf), (10, ia ha)]) (l2 := [(0, .inr (10, [.ref 1, .ref 3, .ref s, .ref 23, .ref 31, .ref 39, .ref 105, .ref se, .ref ss, .ref 120, .ref 125, .ref 129, .ref 131, .int lt, .int (Int32.ofNat (fbL (fun d => cbL (KK' bo d ri lf ha) (3 * P) 0 0) B m 0 (2 ^ (3 * P) - 1))), .int (Int32.ofNat (mnF (fun d => dif (cnt ((fbL (fun d => cbL (KK' bo d ri lf ha) (3 * P) 0 0) B m 0 (2 ^ (3 * P) - 1)) &&& cbL (KK' bo d ri lf ha) (3 * P) 0 0) 21) (cnt (fbL (fun d => cbL (KK' bo d ri lf ha) (3 * P) 0 0) B m 0 (2 ^ (3 * P) - 1)) 21)) (Dn - 1) 1 0)), .int gb])), (1, tcl 0 lim a kd pl w le nu tk fa fp), (2, bcl bs), (3, dcl3 P Dn lw cl id gl bo), (5, ia ri), (6, ia lf), (10, ia ha)]) (ov_id h0 (ov_id g1 (ov_id g2 (ov_id h1 (ov_id h2 (ov_id h3 (ov_c1 h4))))))) rfl (congrArg (fun z : List AE => (z.set 1 _).set 0 _) (ov_id g2 (ov_id h1 (ov_id h2 (ov_id h3 (ov_c1 h4)))))) ?_
  refine RT_step (pc2 := 1) rfl (fun _ _ => rfl) ?_
  refine ow_gf rfl rfl rfl hlen rfl ?_
  refine ow_gf rfl rfl rfl hlen rfl ?_
  refine RT_step (pc2 := 8) rfl (fun _ _ => rfl) ?_
  refine RT_step (pc2 := 9) rfl (fun _ _ => rfl) ?_
  refine rt_ico rfl ki_2 ?_
  refine biF_lt rfl (n_nlt (by omega) (by omega)) ?_
  refine RT_step (pc2 := 14) rfl (fun _ _ => rfl) ?_
  refine rt_bip rfl k8_12 ?_
  refine biF_gt rfl (n_nlt (by omega) (by decide)) ?_
  refine RT_step (pc2 := 20) rfl (fun _ _ => rfl) ?_
  refine rt_ico rfl ki_2 ?_
  refine rt_rem rfl (by decide) (rm2 n (by omega)) ?_
  refine bcT_ne rfl (n_eq (b := 0) (by omega)) ?_
  refine RT_step (pc2 := 26) rfl (fun _ _ => rfl) ?_
  refine rt_ico rfl ki_2 ?_
  refine ow_iv1 (l2 := [(0, .inr (10, [.ref 1, .ref 3, .ref s, .ref 23, .ref 31, .ref 39, .ref 105, .ref se, .ref ss, .ref 120, .ref 125, .ref 129, .ref 131, .int lt, .int fb, .int tq, .int gb])), (1, tcl n lim a kd pl w le nu tk fa fp), (2, bcl bs), (3, dcl3 P Dn lw cl id gl bo), (5, ia ri), (6, ia lf), (10, ia ha)]) rfl rfl rfl rfl hlen rfl rfl rfl (ctd.up (by decide)) rfl ?_
  refine bcF_eq rfl (by decide) ?_
  refine RT_step (pc2 := 34) rfl (fun _ _ => rfl) ?_
  refine ow_iv1 (l2 := [(0, .inr (10, [.ref 1, .ref 3, .ref s, .ref 23, .ref 31, .ref 39, .ref 105, .ref se, .ref ss, .ref 120, .ref 125, .ref 129, .ref 131, .int lt, .int fb, .int tq, .int gb])), (1, tcl n lim a kd pl w le nu tk fa fp), (2, bcl bs), (3, dcl3 P Dn lw cl id gl bo), (5, ia ri), (6, ia lf), (10, ia ha)]) rfl rfl rfl rfl hlen rfl rfl rfl (cto.up (by decide)) rfl ?_
  refine bcF_eq rfl (by decide) ?_
  refine rt_ico rfl ki_1 ?_
  refine RT_step (pc2 := 45) rfl (fun _ _ => rfl) ?_
  refine RT_step (pc2 := 46) rfl (fun _ _ => rfl) ?_
  refine RT_step (pc2 := 47) rfl (fun _ _ => rfl) ?_
  refine ow_gf rfl rfl rfl hlen rfl ?_
  refine rt_ico rfl ki_0 ?_
  refine ow_pf rfl rfl rfl rfl rfl hlen rfl rfl ?_
  refine RT_step (pc2 := 55) rfl (fun _ _ => rfl) ?_
  refine bcF_ne rfl (show ¬ Int32.ofNat 1 = 0 by decide) ?_
  refine RT_step (pc2 := 61) rfl (fun _ _ => rfl) ?_
  refine ow_gf rfl rfl rfl hlen rfl ?_
  refine ow_iv1 (l2 := [(0, .inr (10, [.ref 1, .ref 3, .ref s, .ref 23, .ref 31, .ref 39, .ref 105, .ref se, .ref ss, .ref 120, .ref 125, .ref 129, .ref 131, .int lt, .int fb, .int tq, .int gb])), (1, tcl 0 lim a kd pl w le nu tk fa fp), (2, bcl bs), (3, dcl3 P Dn lw cl id gl bo), (5, ia ri), (6, ia lf), (10, ia ha)]) rfl rfl rfl rfl hlen rfl rfl rfl (cah.up (by decide)) rfl ?_
  refine RT_step (pc2 := 68) rfl (fun _ _ => rfl) ?_
  refine rt_ico rfl ki_0 ?_
  refine RT_step (pc2 := 71) rfl (fun _ _ => rfl) ?_
  refine x_fiL3 (dd := 1) hlen hB hb hbo hP hD lr ll lh hm (fun i hi => (hg i hi).1) m 0 _ _ (by omega) hal rfl (by subst hn; rfl) rfl rfl (fun L2 l0 l3 => ?_)
  have hd0 := (hg 0 (by omega)).1
  have cbt := x_bt23 (H := ov H [(0, .inr (10, [.ref 1, .ref 3, .ref s, .ref 23, .ref 31, .ref 39, .ref 105, .ref se, .ref ss, .ref 120, .ref 125, .ref 129, .ref 131, .int lt, .int (Int32.ofNat (fbL (fun d => cbL (KK' bo d ri lf ha) (3 * P) 0 0) B m 0 (2 ^ (3 * P) - 1))), .int tq, .int gb])), (1, tcl 0 lim a kd pl w le nu tk fa fp), (2, bcl bs), (3, dcl3 P Dn lw cl id gl bo), (5, ia ri), (6, ia lf), (10, ia ha)]) (ov_hl hlen) hbo hP hD lr ll lh hbb (by omega) (ov_at rfl (ov_lt hlen (by decide))) (ov_at rfl (ov_lt hlen (by decide))) (ov_at rfl (ov_lt hlen (by decide))) (ov_at rfl (ov_lt hlen (by decide)))
  refine rt_ild rfl l3 ?_
  refine bcF_eq rfl (n_ne (b := 0) hz (by omega) (by decide)) ?_
  refine rt_ald rfl l0 ?_
  refine rt_ild rfl l3 ?_
  refine ow_pf rfl rfl rfl rfl rfl hlen rfl rfl ?_
  refine rt_ald rfl l0 ?_
  refine rt_ald rfl l0 ?_
  refine ow_gf rfl rfl rfl hlen rfl ?_
  refine rt_ild rfl l3 ?_
  refine ow_iv1 (l2 := [(0, .inr (10, [.ref 1, .ref 3, .ref s, .ref 23, .ref 31, .ref 39, .ref 105, .ref se, .ref ss, .ref 120, .ref 125, .ref 129, .ref 131, .int lt, .int (Int32.ofNat (fbL (fun d => cbL (KK' bo d ri lf ha) (3 * P) 0 0) B m 0 (2 ^ (3 * P) - 1))), .int tq, .int gb])), (1, tcl 0 lim a kd pl w le nu tk fa fp), (2, bcl bs), (3, dcl3 P Dn lw cl id gl bo), (5, ia ri), (6, ia lf), (10, ia ha)]) rfl rfl rfl rfl hlen rfl rfl rfl (cbt.up (by decide)) rfl ?_
  refine ow_pf rfl rfl rfl rfl rfl hlen rfl rfl ?_
  refine rt_ild rfl l3 ?_
  refine ow_is1 (l2 := [(0, .inr (10, [.ref 1, .ref 3, .ref s, .ref 23, .ref 31, .ref 39, .ref 105, .ref se, .ref ss, .ref 120, .ref 125, .ref 129, .ref 131, .int lt, .int (Int32.ofNat (fbL (fun d => cbL (KK' bo d ri lf ha) (3 * P) 0 0) B m 0 (2 ^ (3 * P) - 1))), .int (Int32.ofNat (mnF (fun d => dif (cnt ((fbL (fun d => cbL (KK' bo d ri lf ha) (3 * P) 0 0) B m 0 (2 ^ (3 * P) - 1)) &&& cbL (KK' bo d ri lf ha) (3 * P) 0 0) 21) (cnt (fbL (fun d => cbL (KK' bo d ri lf ha) (3 * P) 0 0) B m 0 (2 ^ (3 * P) - 1)) 21)) (Dn - 1) 1 0)), .int gb])), (1, tcl 0 lim a kd pl w le nu tk fa fp), (2, bcl bs), (3, dcl3 P Dn lw cl id gl bo), (5, ia ri), (6, ia lf), (10, ia ha)]) rfl rfl rfl rfl rfl (cbc.up (by decide)) rfl ?_
  exact ow_irt rfl rfl rfl
theorem x_fi013 {H : List AE} (hlen : Nat.ble 204 H.length = true) {s se ss : Nat} {lt fb tq gb : Int32} {n lim a kd pl w : Nat} {le : Int64} {nu tk fa fp : Int32} {P Dn gl bo : Nat} {lw cl id : Int32} {ri lf ha : List Int32} {bs : List Int32} {B : Nat → Nat} (hB : BY bs B) (hb : ∀ i, B i < 256) (hbo : bo < 256) (hP : P ≤ 7) (hD : Dn ≤ 8) (lr : ri.length = 7) (ll : lf.length = 7) (lh : ha.length = 8) (h0 : H[0]? = some (.inr (10, [.ref 1, .ref 13, .ref s, .ref 23, .ref 31, .ref 39, .ref 105, .ref se, .ref ss, .ref 120, .ref 125, .ref 129, .ref 131, .int lt, .int fb, .int tq, .int gb]))) (g1 : H[1]? = some (tcl n lim a kd pl w le nu tk fa fp)) (g2 : H[2]? = some (bcl bs)) (h1 : H[13]? = some (dcl13 P Dn lw cl id gl bo)) (h2 : H[15]? = some (ia ri)) (h3 : H[16]? = some (ia lf)) (h4 : H[20]? = some (ia ha)) (hn : n ≤ 940) (hg : ¬ gdF B Dn n) : FR 6 20 [.ref 0] H (some (.int (-1 : Int32)), ov H [(0, .inr (10, [.ref 1, .ref 13, .ref s, .ref 23, .ref 31, .ref 39, .ref 105, .ref se, .ref ss, .ref 120, .ref 125, .ref 129, .ref 131, .int lt, .int fb, .int tq, .int gb])), (1, tcl 0 lim a kd pl w le nu tk fa fp)]) := by
  refine FR_ov (l := [(0, .inr (10, [.ref 1, .ref 13, .ref s, .ref 23, .ref 31, .ref 39, .ref 105, .ref se, .ref ss, .ref 120, .ref 125, .ref 129, .ref 131, .int lt, .int fb, .int tq, .int gb])), (1, tcl n lim a kd pl w le nu tk fa fp), (2, bcl bs), (13, dcl13 P Dn lw cl id gl bo), (15, ia ri), (16, ia lf), (20, ia ha)]) (l2 := [(0, .inr (10, [.ref 1, .ref 13, .ref s, .ref 23, .ref 31, .ref 39, .ref 105, .ref se, .ref ss, .ref 120, .ref 125, .ref 129, .ref 131, .int lt, .int fb, .int tq, .int gb])), (1, tcl 0 lim a kd pl w le nu tk fa fp), (2, bcl bs), (13, dcl13 P Dn lw cl id gl bo), (15, ia ri), (16, ia lf), (20, ia ha)]) (ov_id h0 (ov_id g1 (ov_id g2 (ov_id h1 (ov_id h2 (ov_id h3 (ov_c1 h4))))))) rfl (congrArg (fun z : List AE => (z.set 1 _).set 0 _) (ov_id g2 (ov_id h1 (ov_id h2 (ov_id h3 (ov_c1 h4)))))) ?_
  by_cases c1 : n < 2
  · refine RT_step (pc2 := 1) rfl (fun _ _ => rfl) ?_
    refine ow_gf rfl rfl rfl hlen rfl ?_
    refine ow_gf rfl rfl rfl hlen rfl ?_
    refine RT_step (pc2 := 8) rfl (fun _ _ => rfl) ?_
    refine RT_step (pc2 := 9) rfl (fun _ _ => rfl) ?_
    refine rt_ico rfl ki_2 ?_
    refine biT_lt rfl (n_lt c1 (by decide)) ?_
    refine rt_ico rfl ki_0 ?_
    refine RT_step (pc2 := 46) rfl (fun _ _ => rfl) ?_
    refine RT_step (pc2 := 47) rfl (fun _ _ => rfl) ?_
    refine ow_gf rfl rfl rfl hlen rfl ?_
    refine rt_ico rfl ki_0 ?_
    refine ow_pf rfl rfl rfl rfl rfl hlen rfl rfl ?_
    refine RT_step (pc2 := 55) rfl (fun _ _ => rfl) ?_
    refine bcT_ne rfl rfl ?_
    refine rt_ico rfl ki_m1 ?_
    exact ow_irt rfl rfl rfl
  · by_cases c2 : 12 < n
    · refine RT_step (pc2 := 1) rfl (fun _ _ => rfl) ?_
      refine ow_gf rfl rfl rfl hlen rfl ?_
      refine ow_gf rfl rfl rfl hlen rfl ?_
      refine RT_step (pc2 := 8) rfl (fun _ _ => rfl) ?_
      refine RT_step (pc2 := 9) rfl (fun _ _ => rfl) ?_
      refine rt_ico rfl ki_2 ?_
      refine biF_lt rfl (n_nlt (by omega) (by omega)) ?_
      refine RT_step (pc2 := 14) rfl (fun _ _ => rfl) ?_
      refine rt_bip rfl k8_12 ?_
      refine biT_gt rfl (n_lt c2 (by omega)) ?_
      refine rt_ico rfl ki_0 ?_
      refine RT_step (pc2 := 46) rfl (fun _ _ => rfl) ?_
      refine RT_step (pc2 := 47) rfl (fun _ _ => rfl) ?_
      refine ow_gf rfl rfl rfl hlen rfl ?_
      refine rt_ico rfl ki_0 ?_
      refine ow_pf rfl rfl rfl rfl rfl hlen rfl rfl ?_
      refine RT_step (pc2 := 55) rfl (fun _ _ => rfl) ?_
      refine bcT_ne rfl rfl ?_
      refine rt_ico rfl ki_m1 ?_
      exact ow_irt rfl rfl rfl
    · by_cases c3 : n % 2 = 0
      · obtain ⟨m, hm⟩ : ∃ m, n = 2 * m := ⟨n / 2, by omega⟩
        have ctd := x_td13 (H := ov H [(0, .inr (10, [.ref 1, .ref 13, .ref s, .ref 23, .ref 31, .ref 39, .ref 105, .ref se, .ref ss, .ref 120, .ref 125, .ref 129, .ref 131, .int lt, .int fb, .int tq, .int gb])), (1, tcl n lim a kd pl w le nu tk fa fp), (2, bcl bs), (13, dcl13 P Dn lw cl id gl bo), (15, ia ri), (16, ia lf), (20, ia ha)]) (ov_hl hlen) hB hb hD hm (by omega) (ov_at rfl (ov_lt hlen (by decide))) (ov_at rfl (ov_lt hlen (by decide))) (ov_at rfl (ov_lt hlen (by decide))) (ov_at rfl (ov_lt hlen (by decide)))
        have cto := x_to13 (H := ov H [(0, .inr (10, [.ref 1, .ref 13, .ref s, .ref 23, .ref 31, .ref 39, .ref 105, .ref se, .ref ss, .ref 120, .ref 125, .ref 129, .ref 131, .int lt, .int fb, .int tq, .int gb])), (1, tcl n lim a kd pl w le nu tk fa fp), (2, bcl bs), (13, dcl13 P Dn lw cl id gl bo), (15, ia ri), (16, ia lf), (20, ia ha)]) (ov_hl hlen) hB hb hD hm (by omega) (ov_at rfl (ov_lt hlen (by decide))) (ov_at rfl (ov_lt hlen (by decide))) (ov_at rfl (ov_lt hlen (by decide))) (ov_at rfl (ov_lt hlen (by decide)))
        cases e1 : aD B Dn m 0 with
        | false =>
          rw [e1] at ctd
          refine RT_step (pc2 := 1) rfl (fun _ _ => rfl) ?_
          refine ow_gf rfl rfl rfl hlen rfl ?_
          refine ow_gf rfl rfl rfl hlen rfl ?_
          refine RT_step (pc2 := 8) rfl (fun _ _ => rfl) ?_
          refine RT_step (pc2 := 9) rfl (fun _ _ => rfl) ?_
          refine rt_ico rfl ki_2 ?_
          refine biF_lt rfl (n_nlt (by omega) (by omega)) ?_
          refine RT_step (pc2 := 14) rfl (fun _ _ => rfl) ?_
          refine rt_bip rfl k8_12 ?_
          refine biF_gt rfl (n_nlt (by omega) (by decide)) ?_
          refine RT_step (pc2 := 20) rfl (fun _ _ => rfl) ?_
          refine rt_ico rfl ki_2 ?_
          refine rt_rem rfl (by decide) (rm2 n (by omega)) ?_
          refine bcT_ne rfl (n_eq (b := 0) c3) ?_
          refine RT_step (pc2 := 26) rfl (fun _ _ => rfl) ?_
          refine rt_ico rfl ki_2 ?_
          refine ow_iv1 (l2 := [(0, .inr (10, [.ref 1, .ref 13, .ref s, .ref 23, .ref 31, .ref 39, .ref 105, .ref se, .ref ss, .ref 120, .ref 125, .ref 129, .ref 131, .int lt, .int fb, .int tq, .int gb])), (1, tcl n lim a kd pl w le nu tk fa fp), (2, bcl bs), (13, dcl13 P Dn lw cl id gl bo), (15, ia ri), (16, ia lf), (20, ia ha)]) rfl rfl rfl rfl hlen rfl rfl rfl (ctd.up (by decide)) rfl ?_
          refine bcT_eq rfl rfl ?_
          refine rt_ico rfl ki_0 ?_
          refine RT_step (pc2 := 46) rfl (fun _ _ => rfl) ?_
          refine RT_step (pc2 := 47) rfl (fun _ _ => rfl) ?_
          refine ow_gf rfl rfl rfl hlen rfl ?_
          refine rt_ico rfl ki_0 ?_
          refine ow_pf rfl rfl rfl rfl rfl hlen rfl rfl ?_
          refine RT_step (pc2 := 55) rfl (fun _ _ => rfl) ?_
          refine bcT_ne rfl rfl ?_
          refine rt_ico rfl ki_m1 ?_
          exact ow_irt rfl rfl rfl
        | true =>
          rw [e1] at ctd
          cases e2 : aO B m 0 with
          | false =>
            rw [e2] at cto
            refine RT_step (pc2 := 1) rfl (fun _ _ => rfl) ?_
            refine ow_gf rfl rfl rfl hlen rfl ?_
            refine ow_gf rfl rfl rfl hlen rfl ?_
            refine RT_step (pc2 := 8) rfl (fun _ _ => rfl) ?_
            refine RT_step (pc2 := 9) rfl (fun _ _ => rfl) ?_
            refine rt_ico rfl ki_2 ?_
            refine biF_lt rfl (n_nlt (by omega) (by omega)) ?_
            refine RT_step (pc2 := 14) rfl (fun _ _ => rfl) ?_
            refine rt_bip rfl k8_12 ?_
            refine biF_gt rfl (n_nlt (by omega) (by decide)) ?_
            refine RT_step (pc2 := 20) rfl (fun _ _ => rfl) ?_
            refine rt_ico rfl ki_2 ?_
            refine rt_rem rfl (by decide) (rm2 n (by omega)) ?_
            refine bcT_ne rfl (n_eq (b := 0) c3) ?_
            refine RT_step (pc2 := 26) rfl (fun _ _ => rfl) ?_
            refine rt_ico rfl ki_2 ?_
            refine ow_iv1 (l2 := [(0, .inr (10, [.ref 1, .ref 13, .ref s, .ref 23, .ref 31, .ref 39, .ref 105, .ref se, .ref ss, .ref 120, .ref 125, .ref 129, .ref 131, .int lt, .int fb, .int tq, .int gb])), (1, tcl n lim a kd pl w le nu tk fa fp), (2, bcl bs), (13, dcl13 P Dn lw cl id gl bo), (15, ia ri), (16, ia lf), (20, ia ha)]) rfl rfl rfl rfl hlen rfl rfl rfl (ctd.up (by decide)) rfl ?_
            refine bcF_eq rfl (by decide) ?_
            refine RT_step (pc2 := 34) rfl (fun _ _ => rfl) ?_
            refine ow_iv1 (l2 := [(0, .inr (10, [.ref 1, .ref 13, .ref s, .ref 23, .ref 31, .ref 39, .ref 105, .ref se, .ref ss, .ref 120, .ref 125, .ref 129, .ref 131, .int lt, .int fb, .int tq, .int gb])), (1, tcl n lim a kd pl w le nu tk fa fp), (2, bcl bs), (13, dcl13 P Dn lw cl id gl bo), (15, ia ri), (16, ia lf), (20, ia ha)]) rfl rfl rfl rfl hlen rfl rfl rfl (cto.up (by decide)) rfl ?_
            refine bcT_eq rfl rfl ?_
            refine rt_ico rfl ki_0 ?_
            refine RT_step (pc2 := 46) rfl (fun _ _ => rfl) ?_
            refine RT_step (pc2 := 47) rfl (fun _ _ => rfl) ?_
            refine ow_gf rfl rfl rfl hlen rfl ?_
            refine rt_ico rfl ki_0 ?_
            refine ow_pf rfl rfl rfl rfl rfl hlen rfl rfl ?_
            refine RT_step (pc2 := 55) rfl (fun _ _ => rfl) ?_
            refine bcT_ne rfl rfl ?_
            refine rt_ico rfl ki_m1 ?_
            exact ow_irt rfl rfl rfl
          | true => exact absurd ⟨m, hm, by omega, by omega, fun i hi => ⟨aD_at e1 (Nat.zero_le i) (by omega), aO_at e2 (Nat.zero_le i) (by omega)⟩⟩ hg
      · refine RT_step (pc2 := 1) rfl (fun _ _ => rfl) ?_
        refine ow_gf rfl rfl rfl hlen rfl ?_
        refine ow_gf rfl rfl rfl hlen rfl ?_
        refine RT_step (pc2 := 8) rfl (fun _ _ => rfl) ?_
        refine RT_step (pc2 := 9) rfl (fun _ _ => rfl) ?_
        refine rt_ico rfl ki_2 ?_
        refine biF_lt rfl (n_nlt (by omega) (by omega)) ?_
        refine RT_step (pc2 := 14) rfl (fun _ _ => rfl) ?_
        refine rt_bip rfl k8_12 ?_
        refine biF_gt rfl (n_nlt (by omega) (by decide)) ?_
        refine RT_step (pc2 := 20) rfl (fun _ _ => rfl) ?_
        refine rt_ico rfl ki_2 ?_
        refine rt_rem rfl (by decide) (rm2 n (by omega)) ?_
        refine bcF_ne rfl (n_ne (b := 0) c3 (by omega) (by decide)) ?_
        refine rt_ico rfl ki_0 ?_
        refine RT_step (pc2 := 46) rfl (fun _ _ => rfl) ?_
        refine RT_step (pc2 := 47) rfl (fun _ _ => rfl) ?_
        refine ow_gf rfl rfl rfl hlen rfl ?_
        refine rt_ico rfl ki_0 ?_
        refine ow_pf rfl rfl rfl rfl rfl hlen rfl rfl ?_
        refine RT_step (pc2 := 55) rfl (fun _ _ => rfl) ?_
        refine bcT_ne rfl rfl ?_
        refine rt_ico rfl ki_m1 ?_
        exact ow_irt rfl rfl rfl
theorem x_fi113 {H : List AE} (hlen : Nat.ble 204 H.length = true) {s se ss : Nat} {lt fb tq gb : Int32} {n lim a kd pl w : Nat} {le : Int64} {nu tk fa fp : Int32} {P Dn gl bo : Nat} {lw cl id : Int32} {ri lf ha : List Int32} {bs : List Int32} {B : Nat → Nat} (hB : BY bs B) (hb : ∀ i, B i < 256) (hbo : bo < 256) (hP : P ≤ 7) (hD : Dn ≤ 8) (lr : ri.length = 7) (ll : lf.length = 7) (lh : ha.length = 8) (h0 : H[0]? = some (.inr (10, [.ref 1, .ref 13, .ref s, .ref 23, .ref 31, .ref 39, .ref 105, .ref se, .ref ss, .ref 120, .ref 125, .ref 129, .ref 131, .int lt, .int fb, .int tq, .int gb]))) (g1 : H[1]? = some (tcl n lim a kd pl w le nu tk fa fp)) (g2 : H[2]? = some (bcl bs)) (h1 : H[13]? = some (dcl13 P Dn lw cl id gl bo)) (h2 : H[15]? = some (ia ri)) (h3 : H[16]? = some (ia lf)) (h4 : H[20]? = some (ia ha)) {m : Nat} (hn : n = 2 * m) (hm1 : 1 ≤ m) (hm : m ≤ 6) (hg : ∀ i, i < m → B (2 * i) < Dn ∧ B (2 * i + 1) ≤ 1) (hz : (fbL (fun d => cbL (KK' bo d ri lf ha) (3 * P) 0 0) B m 0 (2 ^ (3 * P) - 1)) = 0) : FR 6 20 [.ref 0] H (some (.int (Int32.ofNat (cnt (fbL (fun d => cbL (KK' bo d ri lf ha) (3 * P) 0 0) B m 0 (2 ^ (3 * P) - 1)) 21))), ov H [(0, .inr (10, [.ref 1, .ref 13, .ref s, .ref 23, .ref 31, .ref 39, .ref 105, .ref se, .ref ss, .ref 120, .ref 125, .ref 129, .ref 131, .int lt, .int fb, .int tq, .int gb])), (1, tcl 0 lim a kd pl w le nu tk fa fp)]) := by
  have hal := all_lt hP
  have hbb : (fbL (fun d => cbL (KK' bo d ri lf ha) (3 * P) 0 0) B m 0 (2 ^ (3 * P) - 1)) < 2097152 := fb_lt (m := 21) hal
  have e1 : aD B Dn m 0 = true := by
    cases e : aD B Dn m 0 with
    | true => rfl
    | false =>
      obtain ⟨i, -, i2, i3⟩ := aD_no e
      exact absurd (hg i (by omega)).1 i3
  have e2 : aO B m 0 = true := by
    cases e : aO B m 0 with
    | true => rfl
    | false =>
      obtain ⟨i, -, i2, i3⟩ := aO_no e
      exact absurd (hg i (by omega)).2 i3
  have ctd := x_td13 (H := ov H [(0, .inr (10, [.ref 1, .ref 13, .ref s, .ref 23, .ref 31, .ref 39, .ref 105, .ref se, .ref ss, .ref 120, .ref 125, .ref 129, .ref 131, .int lt, .int fb, .int tq, .int gb])), (1, tcl n lim a kd pl w le nu tk fa fp), (2, bcl bs), (13, dcl13 P Dn lw cl id gl bo), (15, ia ri), (16, ia lf), (20, ia ha)]) (ov_hl hlen) hB hb hD hn (by omega) (ov_at rfl (ov_lt hlen (by decide))) (ov_at rfl (ov_lt hlen (by decide))) (ov_at rfl (ov_lt hlen (by decide))) (ov_at rfl (ov_lt hlen (by decide)))
  have cto := x_to13 (H := ov H [(0, .inr (10, [.ref 1, .ref 13, .ref s, .ref 23, .ref 31, .ref 39, .ref 105, .ref se, .ref ss, .ref 120, .ref 125, .ref 129, .ref 131, .int lt, .int fb, .int tq, .int gb])), (1, tcl n lim a kd pl w le nu tk fa fp), (2, bcl bs), (13, dcl13 P Dn lw cl id gl bo), (15, ia ri), (16, ia lf), (20, ia ha)]) (ov_hl hlen) hB hb hD hn (by omega) (ov_at rfl (ov_lt hlen (by decide))) (ov_at rfl (ov_lt hlen (by decide))) (ov_at rfl (ov_lt hlen (by decide))) (ov_at rfl (ov_lt hlen (by decide)))
  rw [e1] at ctd
  rw [e2] at cto
  have cah := x_ah13 (H := ov H [(0, .inr (10, [.ref 1, .ref 13, .ref s, .ref 23, .ref 31, .ref 39, .ref 105, .ref se, .ref ss, .ref 120, .ref 125, .ref 129, .ref 131, .int lt, .int fb, .int tq, .int gb])), (1, tcl 0 lim a kd pl w le nu tk fa fp), (2, bcl bs), (13, dcl13 P Dn lw cl id gl bo), (15, ia ri), (16, ia lf), (20, ia ha)]) (ov_hl hlen) hP (ov_at rfl (ov_lt hlen (by decide)))
  have cbc := x_bc (H := ov H [(0, .inr (10, [.ref 1, .ref 13, .ref s, .ref 23, .ref 31, .ref 39, .ref 105, .ref se, .ref ss, .ref 120, .ref 125, .ref 129, .ref 131, .int lt, .int fb, .int tq, .int gb])), (1, tcl 0 lim a kd pl w le nu tk fa fp), (2, bcl bs), (13, dcl13 P Dn lw cl id gl bo), (15, ia ri), (16, ia lf), (20, ia ha)]) (Int32.ofNat (fbL (fun d => cbL (KK' bo d ri lf ha) (3 * P) 0 0) B m 0 (2 ^ (3 * P) - 1)))
  rw [bc_21 hbb] at cbc
  refine FR_ov (l := [(0, .inr (10, [.ref 1, .ref 13, .ref s, .ref 23, .ref 31, .ref 39, .ref 105, .ref se, .ref ss, .ref 120, .ref 125, .ref 129, .ref 131, .int lt, .int fb, .int tq, .int gb])), (1, tcl n lim a kd pl w le nu tk fa fp), (2, bcl bs), (13, dcl13 P Dn lw cl id gl bo), (15, ia ri), (16, ia lf), (20, ia ha)]) (l2 := [(0, .inr (10, [.ref 1, .ref 13, .ref s, .ref 23, .ref 31, .ref 39, .ref 105, .ref se, .ref ss, .ref 120, .ref 125, .ref 129, .ref 131, .int lt, .int fb, .int tq, .int gb])), (1, tcl 0 lim a kd pl w le nu tk fa fp), (2, bcl bs), (13, dcl13 P Dn lw cl id gl bo), (15, ia ri), (16, ia lf), (20, ia ha)]) (ov_id h0 (ov_id g1 (ov_id g2 (ov_id h1 (ov_id h2 (ov_id h3 (ov_c1 h4))))))) rfl (congrArg (fun z : List AE => (z.set 1 _).set 0 _) (ov_id g2 (ov_id h1 (ov_id h2 (ov_id h3 (ov_c1 h4)))))) ?_
  refine RT_step (pc2 := 1) rfl (fun _ _ => rfl) ?_
  refine ow_gf rfl rfl rfl hlen rfl ?_
  refine ow_gf rfl rfl rfl hlen rfl ?_
  refine RT_step (pc2 := 8) rfl (fun _ _ => rfl) ?_
  refine RT_step (pc2 := 9) rfl (fun _ _ => rfl) ?_
  refine rt_ico rfl ki_2 ?_
  refine biF_lt rfl (n_nlt (by omega) (by omega)) ?_
  refine RT_step (pc2 := 14) rfl (fun _ _ => rfl) ?_
  refine rt_bip rfl k8_12 ?_
  refine biF_gt rfl (n_nlt (by omega) (by decide)) ?_
  refine RT_step (pc2 := 20) rfl (fun _ _ => rfl) ?_
  refine rt_ico rfl ki_2 ?_
  refine rt_rem rfl (by decide) (rm2 n (by omega)) ?_
  refine bcT_ne rfl (n_eq (b := 0) (by omega)) ?_
  refine RT_step (pc2 := 26) rfl (fun _ _ => rfl) ?_
  refine rt_ico rfl ki_2 ?_
  refine ow_iv1 (l2 := [(0, .inr (10, [.ref 1, .ref 13, .ref s, .ref 23, .ref 31, .ref 39, .ref 105, .ref se, .ref ss, .ref 120, .ref 125, .ref 129, .ref 131, .int lt, .int fb, .int tq, .int gb])), (1, tcl n lim a kd pl w le nu tk fa fp), (2, bcl bs), (13, dcl13 P Dn lw cl id gl bo), (15, ia ri), (16, ia lf), (20, ia ha)]) rfl rfl rfl rfl hlen rfl rfl rfl (ctd.up (by decide)) rfl ?_
  refine bcF_eq rfl (by decide) ?_
  refine RT_step (pc2 := 34) rfl (fun _ _ => rfl) ?_
  refine ow_iv1 (l2 := [(0, .inr (10, [.ref 1, .ref 13, .ref s, .ref 23, .ref 31, .ref 39, .ref 105, .ref se, .ref ss, .ref 120, .ref 125, .ref 129, .ref 131, .int lt, .int fb, .int tq, .int gb])), (1, tcl n lim a kd pl w le nu tk fa fp), (2, bcl bs), (13, dcl13 P Dn lw cl id gl bo), (15, ia ri), (16, ia lf), (20, ia ha)]) rfl rfl rfl rfl hlen rfl rfl rfl (cto.up (by decide)) rfl ?_
  refine bcF_eq rfl (by decide) ?_
  refine rt_ico rfl ki_1 ?_
  refine RT_step (pc2 := 45) rfl (fun _ _ => rfl) ?_
  refine RT_step (pc2 := 46) rfl (fun _ _ => rfl) ?_
  refine RT_step (pc2 := 47) rfl (fun _ _ => rfl) ?_
  refine ow_gf rfl rfl rfl hlen rfl ?_
  refine rt_ico rfl ki_0 ?_
  refine ow_pf rfl rfl rfl rfl rfl hlen rfl rfl ?_
  refine RT_step (pc2 := 55) rfl (fun _ _ => rfl) ?_
  refine bcF_ne rfl (show ¬ Int32.ofNat 1 = 0 by decide) ?_
  refine RT_step (pc2 := 61) rfl (fun _ _ => rfl) ?_
  refine ow_gf rfl rfl rfl hlen rfl ?_
  refine ow_iv1 (l2 := [(0, .inr (10, [.ref 1, .ref 13, .ref s, .ref 23, .ref 31, .ref 39, .ref 105, .ref se, .ref ss, .ref 120, .ref 125, .ref 129, .ref 131, .int lt, .int fb, .int tq, .int gb])), (1, tcl 0 lim a kd pl w le nu tk fa fp), (2, bcl bs), (13, dcl13 P Dn lw cl id gl bo), (15, ia ri), (16, ia lf), (20, ia ha)]) rfl rfl rfl rfl hlen rfl rfl rfl (cah.up (by decide)) rfl ?_
  refine RT_step (pc2 := 68) rfl (fun _ _ => rfl) ?_
  refine rt_ico rfl ki_0 ?_
  refine RT_step (pc2 := 71) rfl (fun _ _ => rfl) ?_
  refine x_fiL13 (dd := 1) hlen hB hb hbo hP hD lr ll lh hm (fun i hi => (hg i hi).1) m 0 _ _ (by omega) hal rfl (by subst hn; rfl) rfl rfl (fun L2 l0 l3 => ?_)
  refine rt_ild rfl l3 ?_
  refine bcT_eq rfl (n_eq (b := 0) hz) ?_
  refine rt_ild rfl l3 ?_
  refine ow_is1 (l2 := [(0, .inr (10, [.ref 1, .ref 13, .ref s, .ref 23, .ref 31, .ref 39, .ref 105, .ref se, .ref ss, .ref 120, .ref 125, .ref 129, .ref 131, .int lt, .int fb, .int tq, .int gb])), (1, tcl 0 lim a kd pl w le nu tk fa fp), (2, bcl bs), (13, dcl13 P Dn lw cl id gl bo), (15, ia ri), (16, ia lf), (20, ia ha)]) rfl rfl rfl rfl rfl (cbc.up (by decide)) rfl ?_
  exact ow_irt rfl rfl rfl
theorem x_fi213 {H : List AE} (hlen : Nat.ble 204 H.length = true) {s se ss : Nat} {lt fb tq gb : Int32} {n lim a kd pl w : Nat} {le : Int64} {nu tk fa fp : Int32} {P Dn gl bo : Nat} {lw cl id : Int32} {ri lf ha : List Int32} {bs : List Int32} {B : Nat → Nat} (hB : BY bs B) (hb : ∀ i, B i < 256) (hbo : bo < 256) (hP : P ≤ 7) (hD : Dn ≤ 8) (lr : ri.length = 7) (ll : lf.length = 7) (lh : ha.length = 8) (h0 : H[0]? = some (.inr (10, [.ref 1, .ref 13, .ref s, .ref 23, .ref 31, .ref 39, .ref 105, .ref se, .ref ss, .ref 120, .ref 125, .ref 129, .ref 131, .int lt, .int fb, .int tq, .int gb]))) (g1 : H[1]? = some (tcl n lim a kd pl w le nu tk fa fp)) (g2 : H[2]? = some (bcl bs)) (h1 : H[13]? = some (dcl13 P Dn lw cl id gl bo)) (h2 : H[15]? = some (ia ri)) (h3 : H[16]? = some (ia lf)) (h4 : H[20]? = some (ia ha)) {m : Nat} (hn : n = 2 * m) (hm1 : 1 ≤ m) (hm : m ≤ 6) (hg : ∀ i, i < m → B (2 * i) < Dn ∧ B (2 * i + 1) ≤ 1) (hz : ¬ (fbL (fun d => cbL (KK' bo d ri lf ha) (3 * P) 0 0) B m 0 (2 ^ (3 * P) - 1)) = 0) : FR 6 20 [.ref 0] H (some (.int (Int32.ofNat (cnt (fbL (fun d => cbL (KK' bo d ri lf ha) (3 * P) 0 0) B m 0 (2 ^ (3 * P) - 1)) 21))), ov H [(0, .inr (10, [.ref 1, .ref 13, .ref s, .ref 23, .ref 31, .ref 39, .ref 105, .ref se, .ref ss, .ref 120, .ref 125, .ref 129, .ref 131, .int lt, .int (Int32.ofNat (fbL (fun d => cbL (KK' bo d ri lf ha) (3 * P) 0 0) B m 0 (2 ^ (3 * P) - 1))), .int (Int32.ofNat (mnF (fun d => dif (cnt ((fbL (fun d => cbL (KK' bo d ri lf ha) (3 * P) 0 0) B m 0 (2 ^ (3 * P) - 1)) &&& cbL (KK' bo d ri lf ha) (3 * P) 0 0) 21) (cnt (fbL (fun d => cbL (KK' bo d ri lf ha) (3 * P) 0 0) B m 0 (2 ^ (3 * P) - 1)) 21)) (Dn - 1) 1 0)), .int gb])), (1, tcl 0 lim a kd pl w le nu tk fa fp)]) := by
  have hal := all_lt hP
  have hbb : (fbL (fun d => cbL (KK' bo d ri lf ha) (3 * P) 0 0) B m 0 (2 ^ (3 * P) - 1)) < 2097152 := fb_lt (m := 21) hal
  have e1 : aD B Dn m 0 = true := by
    cases e : aD B Dn m 0 with
    | true => rfl
    | false =>
      obtain ⟨i, -, i2, i3⟩ := aD_no e
      exact absurd (hg i (by omega)).1 i3
  have e2 : aO B m 0 = true := by
    cases e : aO B m 0 with
    | true => rfl
    | false =>
      obtain ⟨i, -, i2, i3⟩ := aO_no e
      exact absurd (hg i (by omega)).2 i3
  have ctd := x_td13 (H := ov H [(0, .inr (10, [.ref 1, .ref 13, .ref s, .ref 23, .ref 31, .ref 39, .ref 105, .ref se, .ref ss, .ref 120, .ref 125, .ref 129, .ref 131, .int lt, .int fb, .int tq, .int gb])), (1, tcl n lim a kd pl w le nu tk fa fp), (2, bcl bs), (13, dcl13 P Dn lw cl id gl bo), (15, ia ri), (16, ia lf), (20, ia ha)]) (ov_hl hlen) hB hb hD hn (by omega) (ov_at rfl (ov_lt hlen (by decide))) (ov_at rfl (ov_lt hlen (by decide))) (ov_at rfl (ov_lt hlen (by decide))) (ov_at rfl (ov_lt hlen (by decide)))
  have cto := x_to13 (H := ov H [(0, .inr (10, [.ref 1, .ref 13, .ref s, .ref 23, .ref 31, .ref 39, .ref 105, .ref se, .ref ss, .ref 120, .ref 125, .ref 129, .ref 131, .int lt, .int fb, .int tq, .int gb])), (1, tcl n lim a kd pl w le nu tk fa fp), (2, bcl bs), (13, dcl13 P Dn lw cl id gl bo), (15, ia ri), (16, ia lf), (20, ia ha)]) (ov_hl hlen) hB hb hD hn (by omega) (ov_at rfl (ov_lt hlen (by decide))) (ov_at rfl (ov_lt hlen (by decide))) (ov_at rfl (ov_lt hlen (by decide))) (ov_at rfl (ov_lt hlen (by decide)))
  rw [e1] at ctd
  rw [e2] at cto
  have cah := x_ah13 (H := ov H [(0, .inr (10, [.ref 1, .ref 13, .ref s, .ref 23, .ref 31, .ref 39, .ref 105, .ref se, .ref ss, .ref 120, .ref 125, .ref 129, .ref 131, .int lt, .int fb, .int tq, .int gb])), (1, tcl 0 lim a kd pl w le nu tk fa fp), (2, bcl bs), (13, dcl13 P Dn lw cl id gl bo), (15, ia ri), (16, ia lf), (20, ia ha)]) (ov_hl hlen) hP (ov_at rfl (ov_lt hlen (by decide)))
  have cbc := x_bc (H := ov H [(0, .inr (10, [.ref 1, .ref 13, .ref s, .ref 23, .ref 31, .ref 39, .ref 105, .ref se, .ref ss, .ref 120, .ref 125, .ref 129, .ref 131, .int lt, .int (Int32.ofNat (fbL (fun d => cbL (KK' bo d ri lf ha) (3 * P) 0 0) B m 0 (2 ^ (3 * P) - 1))), .int (Int32.ofNat (mnF (fun d => dif (cnt ((fbL (fun d => cbL (KK' bo d ri lf ha) (3 * P) 0 0) B m 0 (2 ^ (3 * P) - 1)) &&& cbL (KK' bo d ri lf ha) (3 * P) 0 0) 21) (cnt (fbL (fun d => cbL (KK' bo d ri lf ha) (3 * P) 0 0) B m 0 (2 ^ (3 * P) - 1)) 21)) (Dn - 1) 1 0)), .int gb])), (1, tcl 0 lim a kd pl w le nu tk fa fp), (2, bcl bs), (13, dcl13 P Dn lw cl id gl bo), (15, ia ri), (16, ia lf), (20, ia ha)]) (Int32.ofNat (fbL (fun d => cbL (KK' bo d ri lf ha) (3 * P) 0 0) B m 0 (2 ^ (3 * P) - 1)))
  rw [bc_21 hbb] at cbc
  refine FR_ov (l := [(0, .inr (10, [.ref 1, .ref 13, .ref s, .ref 23, .ref 31, .ref 39, .ref 105, .ref se, .ref ss, .ref 120, .ref 125, .ref 129, .ref 131, .int lt, .int fb, .int tq, .int gb])), (1, tcl n lim a kd pl w le nu tk fa fp), (2, bcl bs), (13, dcl13 P Dn lw cl id gl bo), (15, ia ri), (16, ia lf), (20, ia ha)]) (l2 := [(0, .inr (10, [.ref 1, .ref 13, .ref s, .ref 23, .ref 31, .ref 39, .ref 105, .ref se, .ref ss, .ref 120, .ref 125, .ref 129, .ref 131, .int lt, .int (Int32.ofNat (fbL (fun d => cbL (KK' bo d ri lf ha) (3 * P) 0 0) B m 0 (2 ^ (3 * P) - 1))), .int (Int32.ofNat (mnF (fun d => dif (cnt ((fbL (fun d => cbL (KK' bo d ri lf ha) (3 * P) 0 0) B m 0 (2 ^ (3 * P) - 1)) &&& cbL (KK' bo d ri lf ha) (3 * P) 0 0) 21) (cnt (fbL (fun d => cbL (KK' bo d ri lf ha) (3 * P) 0 0) B m 0 (2 ^ (3 * P) - 1)) 21)) (Dn - 1) 1 0)), .int gb])), (1, tcl 0 lim a kd pl w le nu tk fa fp), (2, bcl bs), (13, dcl13 P Dn lw cl id gl bo), (15, ia ri), (16, ia lf), (20, ia ha)]) (ov_id h0 (ov_id g1 (ov_id g2 (ov_id h1 (ov_id h2 (ov_id h3 (ov_c1 h4))))))) rfl (congrArg (fun z : List AE => (z.set 1 _).set 0 _) (ov_id g2 (ov_id h1 (ov_id h2 (ov_id h3 (ov_c1 h4)))))) ?_
  refine RT_step (pc2 := 1) rfl (fun _ _ => rfl) ?_
  refine ow_gf rfl rfl rfl hlen rfl ?_
  refine ow_gf rfl rfl rfl hlen rfl ?_
  refine RT_step (pc2 := 8) rfl (fun _ _ => rfl) ?_
  refine RT_step (pc2 := 9) rfl (fun _ _ => rfl) ?_
  refine rt_ico rfl ki_2 ?_
  refine biF_lt rfl (n_nlt (by omega) (by omega)) ?_
  refine RT_step (pc2 := 14) rfl (fun _ _ => rfl) ?_
  refine rt_bip rfl k8_12 ?_
  refine biF_gt rfl (n_nlt (by omega) (by decide)) ?_
  refine RT_step (pc2 := 20) rfl (fun _ _ => rfl) ?_
  refine rt_ico rfl ki_2 ?_
  refine rt_rem rfl (by decide) (rm2 n (by omega)) ?_
  refine bcT_ne rfl (n_eq (b := 0) (by omega)) ?_
  refine RT_step (pc2 := 26) rfl (fun _ _ => rfl) ?_
  refine rt_ico rfl ki_2 ?_
  refine ow_iv1 (l2 := [(0, .inr (10, [.ref 1, .ref 13, .ref s, .ref 23, .ref 31, .ref 39, .ref 105, .ref se, .ref ss, .ref 120, .ref 125, .ref 129, .ref 131, .int lt, .int fb, .int tq, .int gb])), (1, tcl n lim a kd pl w le nu tk fa fp), (2, bcl bs), (13, dcl13 P Dn lw cl id gl bo), (15, ia ri), (16, ia lf), (20, ia ha)]) rfl rfl rfl rfl hlen rfl rfl rfl (ctd.up (by decide)) rfl ?_
  refine bcF_eq rfl (by decide) ?_
  refine RT_step (pc2 := 34) rfl (fun _ _ => rfl) ?_
  refine ow_iv1 (l2 := [(0, .inr (10, [.ref 1, .ref 13, .ref s, .ref 23, .ref 31, .ref 39, .ref 105, .ref se, .ref ss, .ref 120, .ref 125, .ref 129, .ref 131, .int lt, .int fb, .int tq, .int gb])), (1, tcl n lim a kd pl w le nu tk fa fp), (2, bcl bs), (13, dcl13 P Dn lw cl id gl bo), (15, ia ri), (16, ia lf), (20, ia ha)]) rfl rfl rfl rfl hlen rfl rfl rfl (cto.up (by decide)) rfl ?_
  refine bcF_eq rfl (by decide) ?_
  refine rt_ico rfl ki_1 ?_
  refine RT_step (pc2 := 45) rfl (fun _ _ => rfl) ?_
  refine RT_step (pc2 := 46) rfl (fun _ _ => rfl) ?_
  refine RT_step (pc2 := 47) rfl (fun _ _ => rfl) ?_
  refine ow_gf rfl rfl rfl hlen rfl ?_
  refine rt_ico rfl ki_0 ?_
  refine ow_pf rfl rfl rfl rfl rfl hlen rfl rfl ?_
  refine RT_step (pc2 := 55) rfl (fun _ _ => rfl) ?_
  refine bcF_ne rfl (show ¬ Int32.ofNat 1 = 0 by decide) ?_
  refine RT_step (pc2 := 61) rfl (fun _ _ => rfl) ?_
  refine ow_gf rfl rfl rfl hlen rfl ?_
  refine ow_iv1 (l2 := [(0, .inr (10, [.ref 1, .ref 13, .ref s, .ref 23, .ref 31, .ref 39, .ref 105, .ref se, .ref ss, .ref 120, .ref 125, .ref 129, .ref 131, .int lt, .int fb, .int tq, .int gb])), (1, tcl 0 lim a kd pl w le nu tk fa fp), (2, bcl bs), (13, dcl13 P Dn lw cl id gl bo), (15, ia ri), (16, ia lf), (20, ia ha)]) rfl rfl rfl rfl hlen rfl rfl rfl (cah.up (by decide)) rfl ?_
  refine RT_step (pc2 := 68) rfl (fun _ _ => rfl) ?_
  refine rt_ico rfl ki_0 ?_
  refine RT_step (pc2 := 71) rfl (fun _ _ => rfl) ?_
  refine x_fiL13 (dd := 1) hlen hB hb hbo hP hD lr ll lh hm (fun i hi => (hg i hi).1) m 0 _ _ (by omega) hal rfl (by subst hn; rfl) rfl rfl (fun L2 l0 l3 => ?_)
  have hd0 := (hg 0 (by omega)).1
  have cbt := x_bt213 (H := ov H [(0, .inr (10, [.ref 1, .ref 13, .ref s, .ref 23, .ref 31, .ref 39, .ref 105, .ref se, .ref ss, .ref 120, .ref 125, .ref 129, .ref 131, .int lt, .int (Int32.ofNat (fbL (fun d => cbL (KK' bo d ri lf ha) (3 * P) 0 0) B m 0 (2 ^ (3 * P) - 1))), .int tq, .int gb])), (1, tcl 0 lim a kd pl w le nu tk fa fp), (2, bcl bs), (13, dcl13 P Dn lw cl id gl bo), (15, ia ri), (16, ia lf), (20, ia ha)]) (ov_hl hlen) hbo hP hD lr ll lh hbb (by omega) (ov_at rfl (ov_lt hlen (by decide))) (ov_at rfl (ov_lt hlen (by decide))) (ov_at rfl (ov_lt hlen (by decide))) (ov_at rfl (ov_lt hlen (by decide)))
  refine rt_ild rfl l3 ?_
  refine bcF_eq rfl (n_ne (b := 0) hz (by omega) (by decide)) ?_
  refine rt_ald rfl l0 ?_
  refine rt_ild rfl l3 ?_
  refine ow_pf rfl rfl rfl rfl rfl hlen rfl rfl ?_
  refine rt_ald rfl l0 ?_
  refine rt_ald rfl l0 ?_
  refine ow_gf rfl rfl rfl hlen rfl ?_
  refine rt_ild rfl l3 ?_
  refine ow_iv1 (l2 := [(0, .inr (10, [.ref 1, .ref 13, .ref s, .ref 23, .ref 31, .ref 39, .ref 105, .ref se, .ref ss, .ref 120, .ref 125, .ref 129, .ref 131, .int lt, .int (Int32.ofNat (fbL (fun d => cbL (KK' bo d ri lf ha) (3 * P) 0 0) B m 0 (2 ^ (3 * P) - 1))), .int tq, .int gb])), (1, tcl 0 lim a kd pl w le nu tk fa fp), (2, bcl bs), (13, dcl13 P Dn lw cl id gl bo), (15, ia ri), (16, ia lf), (20, ia ha)]) rfl rfl rfl rfl hlen rfl rfl rfl (cbt.up (by decide)) rfl ?_
  refine ow_pf rfl rfl rfl rfl rfl hlen rfl rfl ?_
  refine rt_ild rfl l3 ?_
  refine ow_is1 (l2 := [(0, .inr (10, [.ref 1, .ref 13, .ref s, .ref 23, .ref 31, .ref 39, .ref 105, .ref se, .ref ss, .ref 120, .ref 125, .ref 129, .ref 131, .int lt, .int (Int32.ofNat (fbL (fun d => cbL (KK' bo d ri lf ha) (3 * P) 0 0) B m 0 (2 ^ (3 * P) - 1))), .int (Int32.ofNat (mnF (fun d => dif (cnt ((fbL (fun d => cbL (KK' bo d ri lf ha) (3 * P) 0 0) B m 0 (2 ^ (3 * P) - 1)) &&& cbL (KK' bo d ri lf ha) (3 * P) 0 0) 21) (cnt (fbL (fun d => cbL (KK' bo d ri lf ha) (3 * P) 0 0) B m 0 (2 ^ (3 * P) - 1)) 21)) (Dn - 1) 1 0)), .int gb])), (1, tcl 0 lim a kd pl w le nu tk fa fp), (2, bcl bs), (13, dcl13 P Dn lw cl id gl bo), (15, ia ri), (16, ia lf), (20, ia ha)]) rfl rfl rfl rfl rfl (cbc.up (by decide)) rfl ?_
  exact ow_irt rfl rfl rfl
