/-! ===== who can do what ===== -/
def kb (bo d h : Nat) (x y w : Int32) : Bool := (bo.testBit d == decide (h = 2)) && !decide (skv x y h < w)
def KK' (bo d : Nat) (ri lf ha : List Int32) (c : Nat) : Bool := kb bo d (c % 3) (ri.getD (c / 3) 0) (lf.getD (c / 3) 0) (ha.getD d 0)
theorem kk_ph {bo d p h : Nat} {ri lf ha : List Int32} (hh : h < 3) : KK' bo d ri lf ha (3 * p + h) = kb bo d h (ri.getD p 0) (lf.getD p 0) (ha.getD d 0) := by
  unfold KK'
  rw [show (3 * p + h) % 3 = h by omega, show (3 * p + h) / 3 = p by omega]
def cbL (K : Nat → Bool) : Nat → Nat → Nat → Nat
  | 0, _, acc => acc
  | r + 1, i, acc => cbL K r (i + 1) (cond (K i) (acc ||| 2 ^ i) acc)
theorem cbL_add {K : Nat → Bool} : ∀ {a b i acc : Nat}, cbL K (a + b) i acc = cbL K b (i + a) (cbL K a i acc)
  | 0, b, i, acc => by rw [Nat.zero_add]; rfl
  | a + 1, b, i, acc => by
    rw [show a + 1 + b = (a + b) + 1 by omega]
    show cbL K (a + b) (i + 1) (cond (K i) (acc ||| 2 ^ i) acc) = _
    rw [cbL_add (a := a), show i + 1 + a = i + (a + 1) by omega]
    rfl
theorem cbL_lt {K : Nat → Bool} {m : Nat} : ∀ {r i acc : Nat}, i + r ≤ m → acc < 2 ^ m → cbL K r i acc < 2 ^ m
  | 0, _, _, _, ha => ha
  | r + 1, i, acc, hi, ha => by
    show cbL K r (i + 1) (cond (K i) (acc ||| 2 ^ i) acc) < _
    cases K i with
    | true => exact cbL_lt (by omega) (or_lt ha (by omega))
    | false => exact cbL_lt (by omega) ha
theorem cbL_bit {K : Nat → Bool} : ∀ {r i acc j : Nat}, (cbL K r i acc).testBit j = true ↔ acc.testBit j = true ∨ (i ≤ j ∧ j < i + r ∧ K j = true)
  | 0, i, acc, j => ⟨fun e => Or.inl e, fun e => e.elim id (fun e => by omega)⟩
  | r + 1, i, acc, j => by
    show (cbL K r (i + 1) (cond (K i) (acc ||| 2 ^ i) acc)).testBit j = true ↔ _
    rw [cbL_bit]
    cases h : K i with
    | true =>
      show (acc ||| 2 ^ i).testBit j = true ∨ _ ↔ _
      rw [or_t, Nat.testBit_two_pow]
      constructor
      · rintro ((e | e) | e)
        · exact Or.inl e
        · have e := of_decide_eq_true e
          subst e
          exact Or.inr ⟨Nat.le_refl _, by omega, h⟩
        · exact Or.inr ⟨by omega, by omega, e.2.2⟩
      · rintro (e | e)
        · exact Or.inl (Or.inl e)
        · by_cases q : i = j
          · exact Or.inl (Or.inr (decide_eq_true q))
          · exact Or.inr ⟨by omega, by omega, e.2.2⟩
    | false =>
      show acc.testBit j = true ∨ _ ↔ _
      refine or_congr Iff.rfl ⟨fun e => ⟨by omega, by omega, e.2.2⟩, fun e => ⟨?_, by omega, e.2.2⟩⟩
      by_cases q : i = j
      · subst q; rw [h] at e; exact absurd e.2.2 (by decide)
      · omega
theorem gDi {L : List Int32} {i : Nat} (h : i < L.length) : L[i]? = some (L.getD i 0) := by
  rw [List.getD_eq_getElem?_getD, List.getElem?_eq_getElem h]
  rfl
theorem sh_21 : ∀ k, k < 31 → Int32.ofNat 1 <<< (Int32.ofNat k &&& 31) = Int32.ofNat (2 ^ k) := by decide +kernel
theorem all_h : ∀ P, P ≤ 7 → (Int32.ofNat 1 <<< ((Int32.ofNat P * Int32.ofNat 3) &&& 31)) - Int32.ofNat 1 = Int32.ofNat (2 ^ (3 * P) - 1) := by decide +kernel
theorem dv3 : ∀ c, c < 21 → Int32.ofNat c / Int32.ofNat 3 = Int32.ofNat (c / 3) := by decide +kernel
theorem rm3 : ∀ c, c < 21 → Int32.ofNat c - Int32.ofNat c / Int32.ofNat 3 * Int32.ofNat 3 = Int32.ofNat (c % 3) := by decide +kernel
theorem i32_twoM {z : Int32} {P : Nat} (hP : P ≤ 1000) : (∃ p, p < P ∧ z = Int32.ofNat p) ∨ z < Int32.ofNat 0 ∨ Int32.ofNat P ≤ z := by
  by_cases h1 : z.toInt < 0
  · exact Or.inr (Or.inl (Int32.lt_iff_toInt_lt.mpr (by rw [n_int (by decide)]; omega)))
  · by_cases h2 : z.toInt < P
    · exact Or.inl ⟨z.toInt.toNat, by omega, i32_nz (by omega)⟩
    · exact Or.inr (Or.inr (Int32.le_iff_toInt_le.mpr (by rw [n_int (by omega)]; omega)))
theorem x_nb3 {H : List AE} (hlen : Nat.ble 204 H.length = true) {P Dn gl bo : Nat} {lw cl id : Int32} (h1 : H[3]? = some (dcl3 P Dn lw cl id gl bo)) (hbo : bo < 256) {d : Nat} (hd : d < 8) : FR 1 72 [.ref 3, .int (Int32.ofNat d)] H (some (.int (b01 (bo.testBit d))), ov H []) := by
  refine FR_ov (l := [(3, dcl3 P Dn lw cl id gl bo)]) (l2 := [(3, dcl3 P Dn lw cl id gl bo)]) (ov_c1 h1) rfl (ov_c1 h1) ?_
  cases e : bo.testBit d with
  | true =>
    refine RT_step (pc2 := 1) rfl (fun _ _ => rfl) ?_
    refine ow_gf rfl rfl rfl hlen rfl ?_
    refine RT_step (pc2 := 5) rfl (fun _ _ => rfl) ?_
    refine ba_iushr rfl ?_
    refine rt_ico rfl ki_1 ?_
    refine ba_iand rfl ?_
    rw [ushr_1 d hd bo hbo]
    refine rt_ico rfl ki_1 ?_
    refine biT_ne rfl (b01_1 e) ?_
    refine rt_ico rfl ki_1 ?_
    refine RT_step (pc2 := 17) rfl (fun _ _ => rfl) ?_
    exact ow_irt rfl rfl rfl
  | false =>
    refine RT_step (pc2 := 1) rfl (fun _ _ => rfl) ?_
    refine ow_gf rfl rfl rfl hlen rfl ?_
    refine RT_step (pc2 := 5) rfl (fun _ _ => rfl) ?_
    refine ba_iushr rfl ?_
    refine rt_ico rfl ki_1 ?_
    refine ba_iand rfl ?_
    rw [ushr_1 d hd bo hbo]
    refine rt_ico rfl ki_1 ?_
    refine biF_ne rfl (b01_0 e) ?_
    refine rt_ico rfl ki_0 ?_
    exact ow_irt rfl rfl rfl
theorem x_har3 {H : List AE} (hlen : Nat.ble 204 H.length = true) {P Dn gl bo : Nat} {lw cl id : Int32} (h1 : H[3]? = some (dcl3 P Dn lw cl id gl bo)) (hbo : bo < 256) {d : Nat} (hd : d < 8) {h : Nat} (hh : h < 3) : FR 2 68 [.ref 3, .int (Int32.ofNat d), .int (Int32.ofNat h)] H (some (.int (b01 (bo.testBit d == decide (h = 2)))), ov H []) := by
  refine FR_ov (l := [(3, dcl3 P Dn lw cl id gl bo)]) (l2 := [(3, dcl3 P Dn lw cl id gl bo)]) (ov_c1 h1) rfl (ov_c1 h1) ?_
  have cq := (x_nb3 (H := ov H [(3, dcl3 P Dn lw cl id gl bo)]) (ov_hl hlen) (ov_at rfl (ov_lt hlen (by decide))) hbo hd)
  cases e : bo.testBit d with
  | true =>
    rw [e] at cq
    by_cases c : h = 2
    · subst c
      refine RT_step (pc2 := 1) rfl (fun _ _ => rfl) ?_
      refine RT_step (pc2 := 2) rfl (fun _ _ => rfl) ?_
      refine ow_iv1 (l2 := [(3, dcl3 P Dn lw cl id gl bo)]) rfl rfl rfl rfl hlen rfl rfl rfl (cq.up (by decide)) rfl ?_
      refine RT_step (pc2 := 6) rfl (fun _ _ => rfl) ?_
      refine rt_ico rfl ki_2 ?_
      refine biT_ne rfl rfl ?_
      refine rt_ico rfl ki_1 ?_
      refine RT_step (pc2 := 15) rfl (fun _ _ => rfl) ?_
      refine biT_ne rfl rfl ?_
      refine rt_ico rfl ki_1 ?_
      refine RT_step (pc2 := 23) rfl (fun _ _ => rfl) ?_
      exact ow_irt rfl rfl rfl
    · rw [decide_eq_false c]
      refine RT_step (pc2 := 1) rfl (fun _ _ => rfl) ?_
      refine RT_step (pc2 := 2) rfl (fun _ _ => rfl) ?_
      refine ow_iv1 (l2 := [(3, dcl3 P Dn lw cl id gl bo)]) rfl rfl rfl rfl hlen rfl rfl rfl (cq.up (by decide)) rfl ?_
      refine RT_step (pc2 := 6) rfl (fun _ _ => rfl) ?_
      refine rt_ico rfl ki_2 ?_
      refine biF_ne rfl (n_ne c (by omega) (by decide)) ?_
      refine rt_ico rfl ki_0 ?_
      refine biF_ne rfl (by decide) ?_
      refine rt_ico rfl ki_0 ?_
      exact ow_irt rfl rfl rfl
  | false =>
    rw [e] at cq
    by_cases c : h = 2
    · subst c
      refine RT_step (pc2 := 1) rfl (fun _ _ => rfl) ?_
      refine RT_step (pc2 := 2) rfl (fun _ _ => rfl) ?_
      refine ow_iv1 (l2 := [(3, dcl3 P Dn lw cl id gl bo)]) rfl rfl rfl rfl hlen rfl rfl rfl (cq.up (by decide)) rfl ?_
      refine RT_step (pc2 := 6) rfl (fun _ _ => rfl) ?_
      refine rt_ico rfl ki_2 ?_
      refine biT_ne rfl rfl ?_
      refine rt_ico rfl ki_1 ?_
      refine RT_step (pc2 := 15) rfl (fun _ _ => rfl) ?_
      refine biF_ne rfl (by decide) ?_
      refine rt_ico rfl ki_0 ?_
      exact ow_irt rfl rfl rfl
    · rw [decide_eq_false c]
      refine RT_step (pc2 := 1) rfl (fun _ _ => rfl) ?_
      refine RT_step (pc2 := 2) rfl (fun _ _ => rfl) ?_
      refine ow_iv1 (l2 := [(3, dcl3 P Dn lw cl id gl bo)]) rfl rfl rfl rfl hlen rfl rfl rfl (cq.up (by decide)) rfl ?_
      refine RT_step (pc2 := 6) rfl (fun _ _ => rfl) ?_
      refine rt_ico rfl ki_2 ?_
      refine biF_ne rfl (n_ne c (by omega) (by decide)) ?_
      refine rt_ico rfl ki_0 ?_
      refine biT_ne rfl rfl ?_
      refine rt_ico rfl ki_1 ?_
      refine RT_step (pc2 := 23) rfl (fun _ _ => rfl) ?_
      exact ow_irt rfl rfl rfl
theorem x_ez3 {H : List AE} (hlen : Nat.ble 204 H.length = true) {P Dn gl bo : Nat} {lw cl id : Int32} {ri lf ha : List Int32} (h1 : H[3]? = some (dcl3 P Dn lw cl id gl bo)) (h2 : H[5]? = some (ia ri)) (h3 : H[6]? = some (ia lf)) (h4 : H[10]? = some (ia ha)) (hbo : bo < 256) {d : Nat} (hd : d < 8) {h p : Nat} (hh : h < 3) (hp : p < 8) {x y w : Int32} (hx : ri[p]? = some x) (hy : lf[p]? = some y) (hw : ha[d]? = some w) : FR 3 69 [.ref 3, .int (Int32.ofNat p), .int (Int32.ofNat d), .int (Int32.ofNat h)] H (some (.int (b01 (kb bo d h x y w))), ov H []) := by
  refine FR_ov (l := [(3, dcl3 P Dn lw cl id gl bo), (5, ia ri), (6, ia lf), (10, ia ha)]) (l2 := [(3, dcl3 P Dn lw cl id gl bo), (5, ia ri), (6, ia lf), (10, ia ha)]) (ov_id h1 (ov_id h2 (ov_id h3 (ov_c1 h4)))) rfl (ov_id h1 (ov_id h2 (ov_id h3 (ov_c1 h4)))) ?_
  have cq := (x_har3 (H := ov H [(3, dcl3 P Dn lw cl id gl bo), (5, ia ri), (6, ia lf), (10, ia ha)]) (ov_hl hlen) (ov_at rfl (ov_lt hlen (by decide))) hbo hd hh)
  have cs := (x_sko3 (H := ov H [(3, dcl3 P Dn lw cl id gl bo), (5, ia ri), (6, ia lf), (10, ia ha)]) (ov_hl hlen) (ov_at rfl (ov_lt hlen (by decide))) (ov_at rfl (ov_lt hlen (by decide))) (ov_at rfl (ov_lt hlen (by decide))) hx hy hp hh)
  unfold kb
  cases e : (bo.testBit d == decide (h = 2)) with
  | false =>
    rw [e] at cq
    refine RT_step (pc2 := 1) rfl (fun _ _ => rfl) ?_
    refine RT_step (pc2 := 2) rfl (fun _ _ => rfl) ?_
    refine RT_step (pc2 := 3) rfl (fun _ _ => rfl) ?_
    refine ow_iv1 (l2 := [(3, dcl3 P Dn lw cl id gl bo), (5, ia ri), (6, ia lf), (10, ia ha)]) rfl rfl rfl rfl hlen rfl rfl rfl (cq.up (by decide)) rfl ?_
    refine bcT_eq rfl rfl ?_
    refine rt_ico rfl ki_0 ?_
    exact ow_irt rfl rfl rfl
  | true =>
    rw [e] at cq
    by_cases c : skv x y h < w
    · rw [decide_eq_true c]
      refine RT_step (pc2 := 1) rfl (fun _ _ => rfl) ?_
      refine RT_step (pc2 := 2) rfl (fun _ _ => rfl) ?_
      refine RT_step (pc2 := 3) rfl (fun _ _ => rfl) ?_
      refine ow_iv1 (l2 := [(3, dcl3 P Dn lw cl id gl bo), (5, ia ri), (6, ia lf), (10, ia ha)]) rfl rfl rfl rfl hlen rfl rfl rfl (cq.up (by decide)) rfl ?_
      refine bcF_eq rfl (by decide) ?_
      refine RT_step (pc2 := 10) rfl (fun _ _ => rfl) ?_
      refine RT_step (pc2 := 11) rfl (fun _ _ => rfl) ?_
      refine RT_step (pc2 := 12) rfl (fun _ _ => rfl) ?_
      refine ow_iv1 (l2 := [(3, dcl3 P Dn lw cl id gl bo), (5, ia ri), (6, ia lf), (10, ia ha)]) rfl rfl rfl rfl hlen rfl rfl rfl (cs.up (by decide)) rfl ?_
      refine RT_step (pc2 := 16) rfl (fun _ _ => rfl) ?_
      refine ow_gf rfl rfl rfl hlen rfl ?_
      refine RT_step (pc2 := 20) rfl (fun _ _ => rfl) ?_
      refine ow_ialN rfl rfl hw (by omega) hlen rfl ?_
      refine biT_lt rfl c ?_
      refine rt_ico rfl ki_0 ?_
      exact ow_irt rfl rfl rfl
    · rw [decide_eq_false c]
      refine RT_step (pc2 := 1) rfl (fun _ _ => rfl) ?_
      refine RT_step (pc2 := 2) rfl (fun _ _ => rfl) ?_
      refine RT_step (pc2 := 3) rfl (fun _ _ => rfl) ?_
      refine ow_iv1 (l2 := [(3, dcl3 P Dn lw cl id gl bo), (5, ia ri), (6, ia lf), (10, ia ha)]) rfl rfl rfl rfl hlen rfl rfl rfl (cq.up (by decide)) rfl ?_
      refine bcF_eq rfl (by decide) ?_
      refine RT_step (pc2 := 10) rfl (fun _ _ => rfl) ?_
      refine RT_step (pc2 := 11) rfl (fun _ _ => rfl) ?_
      refine RT_step (pc2 := 12) rfl (fun _ _ => rfl) ?_
      refine ow_iv1 (l2 := [(3, dcl3 P Dn lw cl id gl bo), (5, ia ri), (6, ia lf), (10, ia ha)]) rfl rfl rfl rfl hlen rfl rfl rfl (cs.up (by decide)) rfl ?_
      refine RT_step (pc2 := 16) rfl (fun _ _ => rfl) ?_
      refine ow_gf rfl rfl rfl hlen rfl ?_
      refine RT_step (pc2 := 20) rfl (fun _ _ => rfl) ?_
      refine ow_ialN rfl rfl hw (by omega) hlen rfl ?_
      refine biF_lt rfl c ?_
      refine rt_ico rfl ki_1 ?_
      refine RT_step (pc2 := 29) rfl (fun _ _ => rfl) ?_
      exact ow_irt rfl rfl rfl
theorem x_cbI3 {H : List AE} (hlen : Nat.ble 204 H.length = true) {P Dn gl bo : Nat} {lw cl id : Int32} {ri lf ha : List Int32} (hbo : bo < 256) {d : Nat} (hd : d < 8) (hP : P ≤ 7) (lr : ri.length = 7) (ll : lf.length = 7) (lh : ha.length = 8) {dd p : Nat} (hp : p < P) {q : ev_R} : ∀ (r h acc : Nat) (L : List (Nat × Value)), h + r = 3 → acc < 2097152 → ev_g L 0 = some (.ref 3) → ev_g L 1 = some (.int (Int32.ofNat d)) → ev_g L 2 = some (.int (Int32.ofNat acc)) → ev_g L 3 = some (.int (Int32.ofNat p)) → ev_g L 4 = some (.int (Int32.ofNat h)) → (∀ L2, ev_g L2 0 = some (.ref 3) → ev_g L2 1 = some (.int (Int32.ofNat d)) → ev_g L2 2 = some (.int (Int32.ofNat (cbL (KK' bo d ri lf ha) r (3 * p + h) acc))) → ev_g L2 3 = some (.int (Int32.ofNat p)) → RT MM (dd + 3) 60 49 L2 [] (ov H [(3, dcl3 P Dn lw cl id gl bo), (5, ia ri), (6, ia lf), (10, ia ha)]) q) → RT MM (dd + 3) 60 15 L [] (ov H [(3, dcl3 P Dn lw cl id gl bo), (5, ia ri), (6, ia lf), (10, ia ha)]) q := by
  intro r
  induction r with
  | zero =>
    intro h acc L hi ha0 l0 l1 l2 l3 l4 hq
    have hi : h = 3 := by omega
    subst hi
    refine rt_il2 rfl l4 ?_
    refine rt_ico rfl ki_3 ?_
    refine biT_ge rfl (n_le (Nat.le_refl _) (by decide)) ?_
    exact hq _ l0 l1 l2 l3
  | succ r ih =>
    intro h acc L hi ha0 l0 l1 l2 l3 l4 hq
    have cq := (x_ez3 (H := ov H [(3, dcl3 P Dn lw cl id gl bo), (5, ia ri), (6, ia lf), (10, ia ha)]) (h := h) (p := p) (ov_hl hlen) (ov_at rfl (ov_lt hlen (by decide))) (ov_at rfl (ov_lt hlen (by decide))) (ov_at rfl (ov_lt hlen (by decide))) (ov_at rfl (ov_lt hlen (by decide))) hbo hd (by omega) (by omega) (gDi (L := ri) (i := p) (by omega)) (gDi (L := lf) (i := p) (by omega)) (gDi (L := ha) (i := d) (by omega)))
    rw [← kk_ph (ri := ri) (lf := lf) (ha := ha) (by omega)] at cq
    cases e : (KK' bo d ri lf ha) (3 * p + h) with
    | true =>
      rw [e] at cq
      rw [show cbL (KK' bo d ri lf ha) (r + 1) (3 * p + h) acc = cbL (KK' bo d ri lf ha) r (3 * p + (h + 1)) (acc ||| 2 ^ (3 * p + h)) from congrArg (cbL (KK' bo d ri lf ha) r (3 * p + (h + 1))) (by rw [e]; rfl)] at hq
      refine rt_il2 rfl l4 ?_
      refine rt_ico rfl ki_3 ?_
      refine biF_ge rfl (n_nle (by omega) (by decide)) ?_
      refine rt_ald rfl l0 ?_
      refine rt_ild rfl l3 ?_
      refine rt_ild rfl l1 ?_
      refine rt_il2 rfl l4 ?_
      refine ow_iv1 (l2 := [(3, dcl3 P Dn lw cl id gl bo), (5, ia ri), (6, ia lf), (10, ia ha)]) rfl rfl rfl rfl hlen rfl rfl rfl (cq.up (by omega)) rfl ?_
      refine bcF_eq rfl (by decide) ?_
      refine rt_ild rfl l2 ?_
      refine rt_ico rfl ki_1 ?_
      refine rt_ild rfl l3 ?_
      refine rt_ico rfl ki_3 ?_
      refine ba_imul rfl ?_
      refine rt_il2 rfl l4 ?_
      refine ba_iadd rfl ?_
      rw [ix_k, show p * 3 + h = 3 * p + h by omega]
      refine ba_ishl rfl ?_
      rw [sh_21 (3 * p + h) (by omega)]
      refine ba_ior rfl ?_
      rw [n_or]
      refine rt_ist rfl (by decide +kernel) ?_
      refine rt_inc rfl (gs_o rfl l4 rfl) (by decide +kernel) ?_
      rw [in_1]
      refine RT_step (pc2 := 15) rfl (fun _ _ => rfl) ?_
      exact ih (h + 1) _ _ (by omega) (or_lt (m := 21) ha0 (by omega)) (gs_o rfl (gs_o rfl l0 rfl) rfl) (gs_o rfl (gs_o rfl l1 rfl) rfl) (gs_o rfl gs_n rfl) (gs_o rfl (gs_o rfl l3 rfl) rfl) gs_n hq
    | false =>
      rw [e] at cq
      rw [show cbL (KK' bo d ri lf ha) (r + 1) (3 * p + h) acc = cbL (KK' bo d ri lf ha) r (3 * p + (h + 1)) acc from congrArg (cbL (KK' bo d ri lf ha) r (3 * p + (h + 1))) (by rw [e]; rfl)] at hq
      refine rt_il2 rfl l4 ?_
      refine rt_ico rfl ki_3 ?_
      refine biF_ge rfl (n_nle (by omega) (by decide)) ?_
      refine rt_ald rfl l0 ?_
      refine rt_ild rfl l3 ?_
      refine rt_ild rfl l1 ?_
      refine rt_il2 rfl l4 ?_
      refine ow_iv1 (l2 := [(3, dcl3 P Dn lw cl id gl bo), (5, ia ri), (6, ia lf), (10, ia ha)]) rfl rfl rfl rfl hlen rfl rfl rfl (cq.up (by omega)) rfl ?_
      refine bcT_eq rfl rfl ?_
      refine rt_inc rfl l4 (by decide +kernel) ?_
      rw [in_1]
      refine RT_step (pc2 := 15) rfl (fun _ _ => rfl) ?_
      exact ih (h + 1) _ _ (by omega) ha0 (gs_o rfl l0 rfl) (gs_o rfl l1 rfl) (gs_o rfl l2 rfl) (gs_o rfl l3 rfl) gs_n hq
theorem x_cbO3 {H : List AE} (hlen : Nat.ble 204 H.length = true) {P Dn gl bo : Nat} {lw cl id : Int32} {ri lf ha : List Int32} (hbo : bo < 256) {d : Nat} (hd : d < 8) (hP : P ≤ 7) (lr : ri.length = 7) (ll : lf.length = 7) (lh : ha.length = 8) {dd : Nat} : ∀ (r p acc : Nat) (L : List (Nat × Value)), p + r = P → acc < 2097152 → ev_g L 0 = some (.ref 3) → ev_g L 1 = some (.int (Int32.ofNat d)) → ev_g L 2 = some (.int (Int32.ofNat acc)) → ev_g L 3 = some (.int (Int32.ofNat p)) → RT MM (dd + 3) 60 4 L [] (ov H [(3, dcl3 P Dn lw cl id gl bo), (5, ia ri), (6, ia lf), (10, ia ha)]) (some (.int (Int32.ofNat (cbL (KK' bo d ri lf ha) (3 * r) (3 * p) acc))), ov H [(3, dcl3 P Dn lw cl id gl bo), (5, ia ri), (6, ia lf), (10, ia ha)]) := by
  intro r
  induction r with
  | zero =>
    intro p acc L hi ha0 l0 l1 l2 l3
    have hi : p = P := by omega
    subst hi
    refine rt_ild rfl l3 ?_
    refine rt_ald rfl l0 ?_
    refine ow_gf rfl rfl rfl hlen rfl ?_
    refine biT_ge rfl (n_le (Nat.le_refl _) (by omega)) ?_
    refine rt_ild rfl l2 ?_
    exact ow_irt rfl rfl rfl
  | succ r ih =>
    intro p acc L hi ha0 l0 l1 l2 l3
    rw [show 3 * (r + 1) = 3 + 3 * r by omega, cbL_add]
    refine rt_ild rfl l3 ?_
    refine rt_ald rfl l0 ?_
    refine ow_gf rfl rfl rfl hlen rfl ?_
    refine biF_ge rfl (n_nle (by omega) (by omega)) ?_
    refine rt_ico rfl ki_0 ?_
    refine rt_is2 rfl (by decide +kernel) ?_
    refine x_cbI3 (dd := dd) hlen hbo hd hP lr ll lh (p := p) (by omega) 3 0 acc _ (by omega) ha0 (gs_o rfl l0 rfl) (gs_o rfl l1 rfl) (gs_o rfl l2 rfl) (gs_o rfl l3 rfl) gs_n (fun L2 m0 m1 m2 m3 => ?_)
    refine rt_inc rfl m3 (by decide +kernel) ?_
    rw [in_1]
    refine RT_step (pc2 := 4) rfl (fun _ _ => rfl) ?_
    exact ih (p + 1) _ _ (by omega) (cbL_lt (m := 21) (by omega) ha0) (gs_o rfl m0 rfl) (gs_o rfl m1 rfl) (gs_o rfl m2 rfl) gs_n
theorem x_cb3 {H : List AE} (hlen : Nat.ble 204 H.length = true) {P Dn gl bo : Nat} {lw cl id : Int32} {ri lf ha : List Int32} (hbo : bo < 256) {d : Nat} (hd : d < 8) (hP : P ≤ 7) (lr : ri.length = 7) (ll : lf.length = 7) (lh : ha.length = 8) (h1 : H[3]? = some (dcl3 P Dn lw cl id gl bo)) (h2 : H[5]? = some (ia ri)) (h3 : H[6]? = some (ia lf)) (h4 : H[10]? = some (ia ha)) : FR 4 60 [.ref 3, .int (Int32.ofNat d)] H (some (.int (Int32.ofNat (cbL (KK' bo d ri lf ha) (3 * P) 0 0))), ov H []) := by
  refine FR_ov (l := [(3, dcl3 P Dn lw cl id gl bo), (5, ia ri), (6, ia lf), (10, ia ha)]) (l2 := [(3, dcl3 P Dn lw cl id gl bo), (5, ia ri), (6, ia lf), (10, ia ha)]) (ov_id h1 (ov_id h2 (ov_id h3 (ov_c1 h4)))) rfl (ov_id h1 (ov_id h2 (ov_id h3 (ov_c1 h4)))) ?_
  refine rt_ico rfl ki_0 ?_
  refine RT_step (pc2 := 2) rfl (fun _ _ => rfl) ?_
  refine rt_ico rfl ki_0 ?_
  refine RT_step (pc2 := 4) rfl (fun _ _ => rfl) ?_
  exact x_cbO3 (dd := 0) hlen hbo hd hP lr ll lh P 0 0 _ (by omega) (by decide) rfl rfl rfl rfl
theorem x_ah3 {H : List AE} (hlen : Nat.ble 204 H.length = true) {P Dn gl bo : Nat} {lw cl id : Int32} (hP : P ≤ 7) (h1 : H[3]? = some (dcl3 P Dn lw cl id gl bo)) : FR 1 57 [.ref 3] H (some (.int (Int32.ofNat (2 ^ (3 * P) - 1))), ov H []) := by
  refine FR_ov (l := [(3, dcl3 P Dn lw cl id gl bo)]) (l2 := [(3, dcl3 P Dn lw cl id gl bo)]) (ov_c1 h1) rfl (ov_c1 h1) ?_
  refine rt_ico rfl ki_1 ?_
  refine RT_step (pc2 := 2) rfl (fun _ _ => rfl) ?_
  refine ow_gf rfl rfl rfl hlen rfl ?_
  refine rt_ico rfl ki_3 ?_
  refine ba_imul rfl ?_
  refine ba_ishl rfl ?_
  refine rt_ico rfl ki_1 ?_
  refine ba_isub rfl ?_
  rw [all_h P hP]
  exact ow_irt rfl rfl rfl
theorem x_nb13 {H : List AE} (hlen : Nat.ble 204 H.length = true) {P Dn gl bo : Nat} {lw cl id : Int32} (h1 : H[13]? = some (dcl13 P Dn lw cl id gl bo)) (hbo : bo < 256) {d : Nat} (hd : d < 8) : FR 1 72 [.ref 13, .int (Int32.ofNat d)] H (some (.int (b01 (bo.testBit d))), ov H []) := by
  refine FR_ov (l := [(13, dcl13 P Dn lw cl id gl bo)]) (l2 := [(13, dcl13 P Dn lw cl id gl bo)]) (ov_c1 h1) rfl (ov_c1 h1) ?_
  cases e : bo.testBit d with
  | true =>
    refine RT_step (pc2 := 1) rfl (fun _ _ => rfl) ?_
    refine ow_gf rfl rfl rfl hlen rfl ?_
    refine RT_step (pc2 := 5) rfl (fun _ _ => rfl) ?_
    refine ba_iushr rfl ?_
    refine rt_ico rfl ki_1 ?_
    refine ba_iand rfl ?_
    rw [ushr_1 d hd bo hbo]
    refine rt_ico rfl ki_1 ?_
    refine biT_ne rfl (b01_1 e) ?_
    refine rt_ico rfl ki_1 ?_
    refine RT_step (pc2 := 17) rfl (fun _ _ => rfl) ?_
    exact ow_irt rfl rfl rfl
  | false =>
    refine RT_step (pc2 := 1) rfl (fun _ _ => rfl) ?_
    refine ow_gf rfl rfl rfl hlen rfl ?_
    refine RT_step (pc2 := 5) rfl (fun _ _ => rfl) ?_
    refine ba_iushr rfl ?_
    refine rt_ico rfl ki_1 ?_
    refine ba_iand rfl ?_
    rw [ushr_1 d hd bo hbo]
    refine rt_ico rfl ki_1 ?_
    refine biF_ne rfl (b01_0 e) ?_
    refine rt_ico rfl ki_0 ?_
    exact ow_irt rfl rfl rfl
theorem x_har13 {H : List AE} (hlen : Nat.ble 204 H.length = true) {P Dn gl bo : Nat} {lw cl id : Int32} (h1 : H[13]? = some (dcl13 P Dn lw cl id gl bo)) (hbo : bo < 256) {d : Nat} (hd : d < 8) {h : Nat} (hh : h < 3) : FR 2 68 [.ref 13, .int (Int32.ofNat d), .int (Int32.ofNat h)] H (some (.int (b01 (bo.testBit d == decide (h = 2)))), ov H []) := by
  refine FR_ov (l := [(13, dcl13 P Dn lw cl id gl bo)]) (l2 := [(13, dcl13 P Dn lw cl id gl bo)]) (ov_c1 h1) rfl (ov_c1 h1) ?_
  have cq := (x_nb13 (H := ov H [(13, dcl13 P Dn lw cl id gl bo)]) (ov_hl hlen) (ov_at rfl (ov_lt hlen (by decide))) hbo hd)
  cases e : bo.testBit d with
  | true =>
    rw [e] at cq
    by_cases c : h = 2
    · subst c
      refine RT_step (pc2 := 1) rfl (fun _ _ => rfl) ?_
      refine RT_step (pc2 := 2) rfl (fun _ _ => rfl) ?_
      refine ow_iv1 (l2 := [(13, dcl13 P Dn lw cl id gl bo)]) rfl rfl rfl rfl hlen rfl rfl rfl (cq.up (by decide)) rfl ?_
      refine RT_step (pc2 := 6) rfl (fun _ _ => rfl) ?_
      refine rt_ico rfl ki_2 ?_
      refine biT_ne rfl rfl ?_
      refine rt_ico rfl ki_1 ?_
      refine RT_step (pc2 := 15) rfl (fun _ _ => rfl) ?_
      refine biT_ne rfl rfl ?_
      refine rt_ico rfl ki_1 ?_
      refine RT_step (pc2 := 23) rfl (fun _ _ => rfl) ?_
      exact ow_irt rfl rfl rfl
    · rw [decide_eq_false c]
      refine RT_step (pc2 := 1) rfl (fun _ _ => rfl) ?_
      refine RT_step (pc2 := 2) rfl (fun _ _ => rfl) ?_
      refine ow_iv1 (l2 := [(13, dcl13 P Dn lw cl id gl bo)]) rfl rfl rfl rfl hlen rfl rfl rfl (cq.up (by decide)) rfl ?_
      refine RT_step (pc2 := 6) rfl (fun _ _ => rfl) ?_
      refine rt_ico rfl ki_2 ?_
      refine biF_ne rfl (n_ne c (by omega) (by decide)) ?_
      refine rt_ico rfl ki_0 ?_
      refine biF_ne rfl (by decide) ?_
      refine rt_ico rfl ki_0 ?_
      exact ow_irt rfl rfl rfl
  | false =>
    rw [e] at cq
    by_cases c : h = 2
    · subst c
      refine RT_step (pc2 := 1) rfl (fun _ _ => rfl) ?_
      refine RT_step (pc2 := 2) rfl (fun _ _ => rfl) ?_
      refine ow_iv1 (l2 := [(13, dcl13 P Dn lw cl id gl bo)]) rfl rfl rfl rfl hlen rfl rfl rfl (cq.up (by decide)) rfl ?_
      refine RT_step (pc2 := 6) rfl (fun _ _ => rfl) ?_
      refine rt_ico rfl ki_2 ?_
      refine biT_ne rfl rfl ?_
      refine rt_ico rfl ki_1 ?_
      refine RT_step (pc2 := 15) rfl (fun _ _ => rfl) ?_
      refine biF_ne rfl (by decide) ?_
      refine rt_ico rfl ki_0 ?_
      exact ow_irt rfl rfl rfl
    · rw [decide_eq_false c]
      refine RT_step (pc2 := 1) rfl (fun _ _ => rfl) ?_
      refine RT_step (pc2 := 2) rfl (fun _ _ => rfl) ?_
      refine ow_iv1 (l2 := [(13, dcl13 P Dn lw cl id gl bo)]) rfl rfl rfl rfl hlen rfl rfl rfl (cq.up (by decide)) rfl ?_
      refine RT_step (pc2 := 6) rfl (fun _ _ => rfl) ?_
      refine rt_ico rfl ki_2 ?_
      refine biF_ne rfl (n_ne c (by omega) (by decide)) ?_
      refine rt_ico rfl ki_0 ?_
      refine biT_ne rfl rfl ?_
      refine rt_ico rfl ki_1 ?_
      refine RT_step (pc2 := 23) rfl (fun _ _ => rfl) ?_
      exact ow_irt rfl rfl rfl
theorem x_ez13 {H : List AE} (hlen : Nat.ble 204 H.length = true) {P Dn gl bo : Nat} {lw cl id : Int32} {ri lf ha : List Int32} (h1 : H[13]? = some (dcl13 P Dn lw cl id gl bo)) (h2 : H[15]? = some (ia ri)) (h3 : H[16]? = some (ia lf)) (h4 : H[20]? = some (ia ha)) (hbo : bo < 256) {d : Nat} (hd : d < 8) {h p : Nat} (hh : h < 3) (hp : p < 8) {x y w : Int32} (hx : ri[p]? = some x) (hy : lf[p]? = some y) (hw : ha[d]? = some w) : FR 3 69 [.ref 13, .int (Int32.ofNat p), .int (Int32.ofNat d), .int (Int32.ofNat h)] H (some (.int (b01 (kb bo d h x y w))), ov H []) := by
  refine FR_ov (l := [(13, dcl13 P Dn lw cl id gl bo), (15, ia ri), (16, ia lf), (20, ia ha)]) (l2 := [(13, dcl13 P Dn lw cl id gl bo), (15, ia ri), (16, ia lf), (20, ia ha)]) (ov_id h1 (ov_id h2 (ov_id h3 (ov_c1 h4)))) rfl (ov_id h1 (ov_id h2 (ov_id h3 (ov_c1 h4)))) ?_
  have cq := (x_har13 (H := ov H [(13, dcl13 P Dn lw cl id gl bo), (15, ia ri), (16, ia lf), (20, ia ha)]) (ov_hl hlen) (ov_at rfl (ov_lt hlen (by decide))) hbo hd hh)
  have cs := (x_sko13 (H := ov H [(13, dcl13 P Dn lw cl id gl bo), (15, ia ri), (16, ia lf), (20, ia ha)]) (ov_hl hlen) (ov_at rfl (ov_lt hlen (by decide))) (ov_at rfl (ov_lt hlen (by decide))) (ov_at rfl (ov_lt hlen (by decide))) hx hy hp hh)
  unfold kb
  cases e : (bo.testBit d == decide (h = 2)) with
  | false =>
    rw [e] at cq
    refine RT_step (pc2 := 1) rfl (fun _ _ => rfl) ?_
    refine RT_step (pc2 := 2) rfl (fun _ _ => rfl) ?_
    refine RT_step (pc2 := 3) rfl (fun _ _ => rfl) ?_
    refine ow_iv1 (l2 := [(13, dcl13 P Dn lw cl id gl bo), (15, ia ri), (16, ia lf), (20, ia ha)]) rfl rfl rfl rfl hlen rfl rfl rfl (cq.up (by decide)) rfl ?_
    refine bcT_eq rfl rfl ?_
    refine rt_ico rfl ki_0 ?_
    exact ow_irt rfl rfl rfl
  | true =>
    rw [e] at cq
    by_cases c : skv x y h < w
    · rw [decide_eq_true c]
      refine RT_step (pc2 := 1) rfl (fun _ _ => rfl) ?_
      refine RT_step (pc2 := 2) rfl (fun _ _ => rfl) ?_
      refine RT_step (pc2 := 3) rfl (fun _ _ => rfl) ?_
      refine ow_iv1 (l2 := [(13, dcl13 P Dn lw cl id gl bo), (15, ia ri), (16, ia lf), (20, ia ha)]) rfl rfl rfl rfl hlen rfl rfl rfl (cq.up (by decide)) rfl ?_
      refine bcF_eq rfl (by decide) ?_
      refine RT_step (pc2 := 10) rfl (fun _ _ => rfl) ?_
      refine RT_step (pc2 := 11) rfl (fun _ _ => rfl) ?_
      refine RT_step (pc2 := 12) rfl (fun _ _ => rfl) ?_
      refine ow_iv1 (l2 := [(13, dcl13 P Dn lw cl id gl bo), (15, ia ri), (16, ia lf), (20, ia ha)]) rfl rfl rfl rfl hlen rfl rfl rfl (cs.up (by decide)) rfl ?_
      refine RT_step (pc2 := 16) rfl (fun _ _ => rfl) ?_
      refine ow_gf rfl rfl rfl hlen rfl ?_
      refine RT_step (pc2 := 20) rfl (fun _ _ => rfl) ?_
      refine ow_ialN rfl rfl hw (by omega) hlen rfl ?_
      refine biT_lt rfl c ?_
      refine rt_ico rfl ki_0 ?_
      exact ow_irt rfl rfl rfl
    · rw [decide_eq_false c]
      refine RT_step (pc2 := 1) rfl (fun _ _ => rfl) ?_
      refine RT_step (pc2 := 2) rfl (fun _ _ => rfl) ?_
      refine RT_step (pc2 := 3) rfl (fun _ _ => rfl) ?_
      refine ow_iv1 (l2 := [(13, dcl13 P Dn lw cl id gl bo), (15, ia ri), (16, ia lf), (20, ia ha)]) rfl rfl rfl rfl hlen rfl rfl rfl (cq.up (by decide)) rfl ?_
      refine bcF_eq rfl (by decide) ?_
      refine RT_step (pc2 := 10) rfl (fun _ _ => rfl) ?_
      refine RT_step (pc2 := 11) rfl (fun _ _ => rfl) ?_
      refine RT_step (pc2 := 12) rfl (fun _ _ => rfl) ?_
      refine ow_iv1 (l2 := [(13, dcl13 P Dn lw cl id gl bo), (15, ia ri), (16, ia lf), (20, ia ha)]) rfl rfl rfl rfl hlen rfl rfl rfl (cs.up (by decide)) rfl ?_
      refine RT_step (pc2 := 16) rfl (fun _ _ => rfl) ?_
      refine ow_gf rfl rfl rfl hlen rfl ?_
      refine RT_step (pc2 := 20) rfl (fun _ _ => rfl) ?_
      refine ow_ialN rfl rfl hw (by omega) hlen rfl ?_
      refine biF_lt rfl c ?_
      refine rt_ico rfl ki_1 ?_
      refine RT_step (pc2 := 29) rfl (fun _ _ => rfl) ?_
      exact ow_irt rfl rfl rfl
theorem x_cbI13 {H : List AE} (hlen : Nat.ble 204 H.length = true) {P Dn gl bo : Nat} {lw cl id : Int32} {ri lf ha : List Int32} (hbo : bo < 256) {d : Nat} (hd : d < 8) (hP : P ≤ 7) (lr : ri.length = 7) (ll : lf.length = 7) (lh : ha.length = 8) {dd p : Nat} (hp : p < P) {q : ev_R} : ∀ (r h acc : Nat) (L : List (Nat × Value)), h + r = 3 → acc < 2097152 → ev_g L 0 = some (.ref 13) → ev_g L 1 = some (.int (Int32.ofNat d)) → ev_g L 2 = some (.int (Int32.ofNat acc)) → ev_g L 3 = some (.int (Int32.ofNat p)) → ev_g L 4 = some (.int (Int32.ofNat h)) → (∀ L2, ev_g L2 0 = some (.ref 13) → ev_g L2 1 = some (.int (Int32.ofNat d)) → ev_g L2 2 = some (.int (Int32.ofNat (cbL (KK' bo d ri lf ha) r (3 * p + h) acc))) → ev_g L2 3 = some (.int (Int32.ofNat p)) → RT MM (dd + 3) 60 49 L2 [] (ov H [(13, dcl13 P Dn lw cl id gl bo), (15, ia ri), (16, ia lf), (20, ia ha)]) q) → RT MM (dd + 3) 60 15 L [] (ov H [(13, dcl13 P Dn lw cl id gl bo), (15, ia ri), (16, ia lf), (20, ia ha)]) q := by
  intro r
  induction r with
  | zero =>
    intro h acc L hi ha0 l0 l1 l2 l3 l4 hq
    have hi : h = 3 := by omega
    subst hi
    refine rt_il2 rfl l4 ?_
    refine rt_ico rfl ki_3 ?_
    refine biT_ge rfl (n_le (Nat.le_refl _) (by decide)) ?_
    exact hq _ l0 l1 l2 l3
  | succ r ih =>
    intro h acc L hi ha0 l0 l1 l2 l3 l4 hq
    have cq := (x_ez13 (H := ov H [(13, dcl13 P Dn lw cl id gl bo), (15, ia ri), (16, ia lf), (20, ia ha)]) (h := h) (p := p) (ov_hl hlen) (ov_at rfl (ov_lt hlen (by decide))) (ov_at rfl (ov_lt hlen (by decide))) (ov_at rfl (ov_lt hlen (by decide))) (ov_at rfl (ov_lt hlen (by decide))) hbo hd (by omega) (by omega) (gDi (L := ri) (i := p) (by omega)) (gDi (L := lf) (i := p) (by omega)) (gDi (L := ha) (i := d) (by omega)))
    rw [← kk_ph (ri := ri) (lf := lf) (ha := ha) (by omega)] at cq
    cases e : (KK' bo d ri lf ha) (3 * p + h) with
    | true =>
      rw [e] at cq
      rw [show cbL (KK' bo d ri lf ha) (r + 1) (3 * p + h) acc = cbL (KK' bo d ri lf ha) r (3 * p + (h + 1)) (acc ||| 2 ^ (3 * p + h)) from congrArg (cbL (KK' bo d ri lf ha) r (3 * p + (h + 1))) (by rw [e]; rfl)] at hq
      refine rt_il2 rfl l4 ?_
      refine rt_ico rfl ki_3 ?_
      refine biF_ge rfl (n_nle (by omega) (by decide)) ?_
      refine rt_ald rfl l0 ?_
      refine rt_ild rfl l3 ?_
      refine rt_ild rfl l1 ?_
      refine rt_il2 rfl l4 ?_
      refine ow_iv1 (l2 := [(13, dcl13 P Dn lw cl id gl bo), (15, ia ri), (16, ia lf), (20, ia ha)]) rfl rfl rfl rfl hlen rfl rfl rfl (cq.up (by omega)) rfl ?_
      refine bcF_eq rfl (by decide) ?_
      refine rt_ild rfl l2 ?_
      refine rt_ico rfl ki_1 ?_
      refine rt_ild rfl l3 ?_
      refine rt_ico rfl ki_3 ?_
      refine ba_imul rfl ?_
      refine rt_il2 rfl l4 ?_
      refine ba_iadd rfl ?_
      rw [ix_k, show p * 3 + h = 3 * p + h by omega]
      refine ba_ishl rfl ?_
      rw [sh_21 (3 * p + h) (by omega)]
      refine ba_ior rfl ?_
      rw [n_or]
      refine rt_ist rfl (by decide +kernel) ?_
      refine rt_inc rfl (gs_o rfl l4 rfl) (by decide +kernel) ?_
      rw [in_1]
      refine RT_step (pc2 := 15) rfl (fun _ _ => rfl) ?_
      exact ih (h + 1) _ _ (by omega) (or_lt (m := 21) ha0 (by omega)) (gs_o rfl (gs_o rfl l0 rfl) rfl) (gs_o rfl (gs_o rfl l1 rfl) rfl) (gs_o rfl gs_n rfl) (gs_o rfl (gs_o rfl l3 rfl) rfl) gs_n hq
    | false =>
      rw [e] at cq
      rw [show cbL (KK' bo d ri lf ha) (r + 1) (3 * p + h) acc = cbL (KK' bo d ri lf ha) r (3 * p + (h + 1)) acc from congrArg (cbL (KK' bo d ri lf ha) r (3 * p + (h + 1))) (by rw [e]; rfl)] at hq
      refine rt_il2 rfl l4 ?_
      refine rt_ico rfl ki_3 ?_
      refine biF_ge rfl (n_nle (by omega) (by decide)) ?_
      refine rt_ald rfl l0 ?_
      refine rt_ild rfl l3 ?_
      refine rt_ild rfl l1 ?_
      refine rt_il2 rfl l4 ?_
      refine ow_iv1 (l2 := [(13, dcl13 P Dn lw cl id gl bo), (15, ia ri), (16, ia lf), (20, ia ha)]) rfl rfl rfl rfl hlen rfl rfl rfl (cq.up (by omega)) rfl ?_
      refine bcT_eq rfl rfl ?_
      refine rt_inc rfl l4 (by decide +kernel) ?_
      rw [in_1]
      refine RT_step (pc2 := 15) rfl (fun _ _ => rfl) ?_
      exact ih (h + 1) _ _ (by omega) ha0 (gs_o rfl l0 rfl) (gs_o rfl l1 rfl) (gs_o rfl l2 rfl) (gs_o rfl l3 rfl) gs_n hq
theorem x_cbO13 {H : List AE} (hlen : Nat.ble 204 H.length = true) {P Dn gl bo : Nat} {lw cl id : Int32} {ri lf ha : List Int32} (hbo : bo < 256) {d : Nat} (hd : d < 8) (hP : P ≤ 7) (lr : ri.length = 7) (ll : lf.length = 7) (lh : ha.length = 8) {dd : Nat} : ∀ (r p acc : Nat) (L : List (Nat × Value)), p + r = P → acc < 2097152 → ev_g L 0 = some (.ref 13) → ev_g L 1 = some (.int (Int32.ofNat d)) → ev_g L 2 = some (.int (Int32.ofNat acc)) → ev_g L 3 = some (.int (Int32.ofNat p)) → RT MM (dd + 3) 60 4 L [] (ov H [(13, dcl13 P Dn lw cl id gl bo), (15, ia ri), (16, ia lf), (20, ia ha)]) (some (.int (Int32.ofNat (cbL (KK' bo d ri lf ha) (3 * r) (3 * p) acc))), ov H [(13, dcl13 P Dn lw cl id gl bo), (15, ia ri), (16, ia lf), (20, ia ha)]) := by
  intro r
  induction r with
  | zero =>
    intro p acc L hi ha0 l0 l1 l2 l3
    have hi : p = P := by omega
    subst hi
    refine rt_ild rfl l3 ?_
    refine rt_ald rfl l0 ?_
    refine ow_gf rfl rfl rfl hlen rfl ?_
    refine biT_ge rfl (n_le (Nat.le_refl _) (by omega)) ?_
    refine rt_ild rfl l2 ?_
    exact ow_irt rfl rfl rfl
  | succ r ih =>
    intro p acc L hi ha0 l0 l1 l2 l3
    rw [show 3 * (r + 1) = 3 + 3 * r by omega, cbL_add]
    refine rt_ild rfl l3 ?_
    refine rt_ald rfl l0 ?_
    refine ow_gf rfl rfl rfl hlen rfl ?_
    refine biF_ge rfl (n_nle (by omega) (by omega)) ?_
    refine rt_ico rfl ki_0 ?_
    refine rt_is2 rfl (by decide +kernel) ?_
    refine x_cbI13 (dd := dd) hlen hbo hd hP lr ll lh (p := p) (by omega) 3 0 acc _ (by omega) ha0 (gs_o rfl l0 rfl) (gs_o rfl l1 rfl) (gs_o rfl l2 rfl) (gs_o rfl l3 rfl) gs_n (fun L2 m0 m1 m2 m3 => ?_)
    refine rt_inc rfl m3 (by decide +kernel) ?_
    rw [in_1]
    refine RT_step (pc2 := 4) rfl (fun _ _ => rfl) ?_
    exact ih (p + 1) _ _ (by omega) (cbL_lt (m := 21) (by omega) ha0) (gs_o rfl m0 rfl) (gs_o rfl m1 rfl) (gs_o rfl m2 rfl) gs_n
theorem x_cb13 {H : List AE} (hlen : Nat.ble 204 H.length = true) {P Dn gl bo : Nat} {lw cl id : Int32} {ri lf ha : List Int32} (hbo : bo < 256) {d : Nat} (hd : d < 8) (hP : P ≤ 7) (lr : ri.length = 7) (ll : lf.length = 7) (lh : ha.length = 8) (h1 : H[13]? = some (dcl13 P Dn lw cl id gl bo)) (h2 : H[15]? = some (ia ri)) (h3 : H[16]? = some (ia lf)) (h4 : H[20]? = some (ia ha)) : FR 4 60 [.ref 13, .int (Int32.ofNat d)] H (some (.int (Int32.ofNat (cbL (KK' bo d ri lf ha) (3 * P) 0 0))), ov H []) := by
  refine FR_ov (l := [(13, dcl13 P Dn lw cl id gl bo), (15, ia ri), (16, ia lf), (20, ia ha)]) (l2 := [(13, dcl13 P Dn lw cl id gl bo), (15, ia ri), (16, ia lf), (20, ia ha)]) (ov_id h1 (ov_id h2 (ov_id h3 (ov_c1 h4)))) rfl (ov_id h1 (ov_id h2 (ov_id h3 (ov_c1 h4)))) ?_
  refine rt_ico rfl ki_0 ?_
  refine RT_step (pc2 := 2) rfl (fun _ _ => rfl) ?_
  refine rt_ico rfl ki_0 ?_
  refine RT_step (pc2 := 4) rfl (fun _ _ => rfl) ?_
  exact x_cbO13 (dd := 0) hlen hbo hd hP lr ll lh P 0 0 _ (by omega) (by decide) rfl rfl rfl rfl
theorem x_ah13 {H : List AE} (hlen : Nat.ble 204 H.length = true) {P Dn gl bo : Nat} {lw cl id : Int32} (hP : P ≤ 7) (h1 : H[13]? = some (dcl13 P Dn lw cl id gl bo)) : FR 1 57 [.ref 13] H (some (.int (Int32.ofNat (2 ^ (3 * P) - 1))), ov H []) := by
  refine FR_ov (l := [(13, dcl13 P Dn lw cl id gl bo)]) (l2 := [(13, dcl13 P Dn lw cl id gl bo)]) (ov_c1 h1) rfl (ov_c1 h1) ?_
  refine rt_ico rfl ki_1 ?_
  refine RT_step (pc2 := 2) rfl (fun _ _ => rfl) ?_
  refine ow_gf rfl rfl rfl hlen rfl ?_
  refine rt_ico rfl ki_3 ?_
  refine ba_imul rfl ?_
  refine ba_ishl rfl ?_
  refine rt_ico rfl ki_1 ?_
  refine ba_isub rfl ?_
  rw [all_h P hP]
  exact ow_irt rfl rfl rfl
theorem m_cb {H : List AE} (hlen : Nat.ble 204 H.length = true) {p0 p2 nu sg fa pl td : Int32} {sz lim a fr kd : Nat} {wd : Int64} {pr : List Value} {nw : List Int32} {bo d : Nat} (h0 : H[180]? = some (mcl p0 p2 sz lim a fr kd nu sg fa pl wd td (pof pr))) (h1 : H[182]? = some (ia nw)) (h44 : nw[44]? = some (Int32.ofNat bo)) (hbo : bo < 256) (hd : d < 8) {x y w : Int32} (hw : nw[20 + d]? = some w) {p h : Nat} (hh : h < 3) (hp : p < 8) (hx : nw[5 + p]? = some x) (hy : nw[12 + p]? = some y) : FR 2 183 [.ref 180, .int (Int32.ofNat p), .int (Int32.ofNat d), .int (Int32.ofNat h)] H (some (.int (b01 (kb bo d h x y w))), ov H []) := by
  refine FR_ov (l := [(180, mcl p0 p2 sz lim a fr kd nu sg fa pl wd td (pof pr)), (182, ia nw)]) (l2 := [(180, mcl p0 p2 sz lim a fr kd nu sg fa pl wd td (pof pr)), (182, ia nw)]) (ov_id h0 (ov_c1 h1)) rfl (ov_id h0 (ov_c1 h1)) ?_
  have cq := (m_has (H := ov H [(180, mcl p0 p2 sz lim a fr kd nu sg fa pl wd td (pof pr)), (182, ia nw)]) (x := bo) (k := d) hbo hd)
  have cs := (m_sko (H := ov H [(180, mcl p0 p2 sz lim a fr kd nu sg fa pl wd td (pof pr)), (182, ia nw)]) (ov_hl hlen) (ov_at rfl (ov_lt hlen (by decide))) (ov_at rfl (ov_lt hlen (by decide))) hx hy hp hh)
  unfold kb
  cases e : bo.testBit d with
  | true =>
    rw [e] at cq
    by_cases c : h = 2
    · subst c
      by_cases k : skv x y 2 < w
      · rw [decide_eq_true k]
        refine RT_step (pc2 := 1) rfl (fun _ _ => rfl) ?_
        refine ow_gf rfl rfl rfl hlen rfl ?_
        refine rt_bip rfl k8_44 ?_
        refine ow_ialN rfl rfl h44 (by omega) hlen rfl ?_
        refine RT_step (pc2 := 8) rfl (fun _ _ => rfl) ?_
        refine ow_is1 (l2 := [(180, mcl p0 p2 sz lim a fr kd nu sg fa pl wd td (pof pr)), (182, ia nw)]) rfl rfl rfl rfl rfl (cq.up (by decide)) rfl ?_
        refine RT_step (pc2 := 12) rfl (fun _ _ => rfl) ?_
        refine rt_ico rfl ki_2 ?_
        refine biT_ne rfl rfl ?_
        refine rt_ico rfl ki_1 ?_
        refine RT_step (pc2 := 21) rfl (fun _ _ => rfl) ?_
        refine biT_ne rfl rfl ?_
        refine RT_step (pc2 := 25) rfl (fun _ _ => rfl) ?_
        refine RT_step (pc2 := 26) rfl (fun _ _ => rfl) ?_
        refine RT_step (pc2 := 27) rfl (fun _ _ => rfl) ?_
        refine ow_iv1 (l2 := [(180, mcl p0 p2 sz lim a fr kd nu sg fa pl wd td (pof pr)), (182, ia nw)]) rfl rfl rfl rfl hlen rfl rfl rfl (cs.up (by decide)) rfl ?_
        refine RT_step (pc2 := 31) rfl (fun _ _ => rfl) ?_
        refine ow_gf rfl rfl rfl hlen rfl ?_
        refine rt_bip rfl k8_20 ?_
        refine RT_step (pc2 := 37) rfl (fun _ _ => rfl) ?_
        refine ba_iadd rfl ?_
        rw [n_add]
        refine ow_ialN rfl rfl hw (by omega) hlen rfl ?_
        refine biT_lt rfl k ?_
        refine rt_ico rfl ki_0 ?_
        exact ow_irt rfl rfl rfl
      · rw [decide_eq_false k]
        refine RT_step (pc2 := 1) rfl (fun _ _ => rfl) ?_
        refine ow_gf rfl rfl rfl hlen rfl ?_
        refine rt_bip rfl k8_44 ?_
        refine ow_ialN rfl rfl h44 (by omega) hlen rfl ?_
        refine RT_step (pc2 := 8) rfl (fun _ _ => rfl) ?_
        refine ow_is1 (l2 := [(180, mcl p0 p2 sz lim a fr kd nu sg fa pl wd td (pof pr)), (182, ia nw)]) rfl rfl rfl rfl rfl (cq.up (by decide)) rfl ?_
        refine RT_step (pc2 := 12) rfl (fun _ _ => rfl) ?_
        refine rt_ico rfl ki_2 ?_
        refine biT_ne rfl rfl ?_
        refine rt_ico rfl ki_1 ?_
        refine RT_step (pc2 := 21) rfl (fun _ _ => rfl) ?_
        refine biT_ne rfl rfl ?_
        refine RT_step (pc2 := 25) rfl (fun _ _ => rfl) ?_
        refine RT_step (pc2 := 26) rfl (fun _ _ => rfl) ?_
        refine RT_step (pc2 := 27) rfl (fun _ _ => rfl) ?_
        refine ow_iv1 (l2 := [(180, mcl p0 p2 sz lim a fr kd nu sg fa pl wd td (pof pr)), (182, ia nw)]) rfl rfl rfl rfl hlen rfl rfl rfl (cs.up (by decide)) rfl ?_
        refine RT_step (pc2 := 31) rfl (fun _ _ => rfl) ?_
        refine ow_gf rfl rfl rfl hlen rfl ?_
        refine rt_bip rfl k8_20 ?_
        refine RT_step (pc2 := 37) rfl (fun _ _ => rfl) ?_
        refine ba_iadd rfl ?_
        rw [n_add]
        refine ow_ialN rfl rfl hw (by omega) hlen rfl ?_
        refine biF_lt rfl k ?_
        refine rt_ico rfl ki_1 ?_
        refine RT_step (pc2 := 47) rfl (fun _ _ => rfl) ?_
        exact ow_irt rfl rfl rfl
    · rw [decide_eq_false c]
      refine RT_step (pc2 := 1) rfl (fun _ _ => rfl) ?_
      refine ow_gf rfl rfl rfl hlen rfl ?_
      refine rt_bip rfl k8_44 ?_
      refine ow_ialN rfl rfl h44 (by omega) hlen rfl ?_
      refine RT_step (pc2 := 8) rfl (fun _ _ => rfl) ?_
      refine ow_is1 (l2 := [(180, mcl p0 p2 sz lim a fr kd nu sg fa pl wd td (pof pr)), (182, ia nw)]) rfl rfl rfl rfl rfl (cq.up (by decide)) rfl ?_
      refine RT_step (pc2 := 12) rfl (fun _ _ => rfl) ?_
      refine rt_ico rfl ki_2 ?_
      refine biF_ne rfl (n_ne c (by omega) (by decide)) ?_
      refine rt_ico rfl ki_0 ?_
      refine biF_ne rfl (by decide) ?_
      refine rt_ico rfl ki_0 ?_
      exact ow_irt rfl rfl rfl
  | false =>
    rw [e] at cq
    by_cases c : h = 2
    · subst c
      refine RT_step (pc2 := 1) rfl (fun _ _ => rfl) ?_
      refine ow_gf rfl rfl rfl hlen rfl ?_
      refine rt_bip rfl k8_44 ?_
      refine ow_ialN rfl rfl h44 (by omega) hlen rfl ?_
      refine RT_step (pc2 := 8) rfl (fun _ _ => rfl) ?_
      refine ow_is1 (l2 := [(180, mcl p0 p2 sz lim a fr kd nu sg fa pl wd td (pof pr)), (182, ia nw)]) rfl rfl rfl rfl rfl (cq.up (by decide)) rfl ?_
      refine RT_step (pc2 := 12) rfl (fun _ _ => rfl) ?_
      refine rt_ico rfl ki_2 ?_
      refine biT_ne rfl rfl ?_
      refine rt_ico rfl ki_1 ?_
      refine RT_step (pc2 := 21) rfl (fun _ _ => rfl) ?_
      refine biF_ne rfl (by decide) ?_
      refine rt_ico rfl ki_0 ?_
      exact ow_irt rfl rfl rfl
    · rw [decide_eq_false c]
      by_cases k : skv x y h < w
      · rw [decide_eq_true k]
        refine RT_step (pc2 := 1) rfl (fun _ _ => rfl) ?_
        refine ow_gf rfl rfl rfl hlen rfl ?_
        refine rt_bip rfl k8_44 ?_
        refine ow_ialN rfl rfl h44 (by omega) hlen rfl ?_
        refine RT_step (pc2 := 8) rfl (fun _ _ => rfl) ?_
        refine ow_is1 (l2 := [(180, mcl p0 p2 sz lim a fr kd nu sg fa pl wd td (pof pr)), (182, ia nw)]) rfl rfl rfl rfl rfl (cq.up (by decide)) rfl ?_
        refine RT_step (pc2 := 12) rfl (fun _ _ => rfl) ?_
        refine rt_ico rfl ki_2 ?_
        refine biF_ne rfl (n_ne c (by omega) (by decide)) ?_
        refine rt_ico rfl ki_0 ?_
        refine biT_ne rfl rfl ?_
        refine RT_step (pc2 := 25) rfl (fun _ _ => rfl) ?_
        refine RT_step (pc2 := 26) rfl (fun _ _ => rfl) ?_
        refine RT_step (pc2 := 27) rfl (fun _ _ => rfl) ?_
        refine ow_iv1 (l2 := [(180, mcl p0 p2 sz lim a fr kd nu sg fa pl wd td (pof pr)), (182, ia nw)]) rfl rfl rfl rfl hlen rfl rfl rfl (cs.up (by decide)) rfl ?_
        refine RT_step (pc2 := 31) rfl (fun _ _ => rfl) ?_
        refine ow_gf rfl rfl rfl hlen rfl ?_
        refine rt_bip rfl k8_20 ?_
        refine RT_step (pc2 := 37) rfl (fun _ _ => rfl) ?_
        refine ba_iadd rfl ?_
        rw [n_add]
        refine ow_ialN rfl rfl hw (by omega) hlen rfl ?_
        refine biT_lt rfl k ?_
        refine rt_ico rfl ki_0 ?_
        exact ow_irt rfl rfl rfl
      · rw [decide_eq_false k]
        refine RT_step (pc2 := 1) rfl (fun _ _ => rfl) ?_
        refine ow_gf rfl rfl rfl hlen rfl ?_
        refine rt_bip rfl k8_44 ?_
        refine ow_ialN rfl rfl h44 (by omega) hlen rfl ?_
        refine RT_step (pc2 := 8) rfl (fun _ _ => rfl) ?_
        refine ow_is1 (l2 := [(180, mcl p0 p2 sz lim a fr kd nu sg fa pl wd td (pof pr)), (182, ia nw)]) rfl rfl rfl rfl rfl (cq.up (by decide)) rfl ?_
        refine RT_step (pc2 := 12) rfl (fun _ _ => rfl) ?_
        refine rt_ico rfl ki_2 ?_
        refine biF_ne rfl (n_ne c (by omega) (by decide)) ?_
        refine rt_ico rfl ki_0 ?_
        refine biT_ne rfl rfl ?_
        refine RT_step (pc2 := 25) rfl (fun _ _ => rfl) ?_
        refine RT_step (pc2 := 26) rfl (fun _ _ => rfl) ?_
        refine RT_step (pc2 := 27) rfl (fun _ _ => rfl) ?_
        refine ow_iv1 (l2 := [(180, mcl p0 p2 sz lim a fr kd nu sg fa pl wd td (pof pr)), (182, ia nw)]) rfl rfl rfl rfl hlen rfl rfl rfl (cs.up (by decide)) rfl ?_
        refine RT_step (pc2 := 31) rfl (fun _ _ => rfl) ?_
        refine ow_gf rfl rfl rfl hlen rfl ?_
        refine rt_bip rfl k8_20 ?_
        refine RT_step (pc2 := 37) rfl (fun _ _ => rfl) ?_
        refine ba_iadd rfl ?_
        rw [n_add]
        refine ow_ialN rfl rfl hw (by omega) hlen rfl ?_
        refine biF_lt rfl k ?_
        refine rt_ico rfl ki_1 ?_
        refine RT_step (pc2 := 47) rfl (fun _ _ => rfl) ?_
        exact ow_irt rfl rfl rfl
theorem m_cc {H : List AE} (hlen : Nat.ble 204 H.length = true) {p0 p2 nu sg fa pl td : Int32} {sz lim a fr kd : Nat} {wd : Int64} {pr : List Value} {nw : List Int32} {bo d : Nat} (h0 : H[180]? = some (mcl p0 p2 sz lim a fr kd nu sg fa pl wd td (pof pr))) (h1 : H[182]? = some (ia nw)) (h44 : nw[44]? = some (Int32.ofNat bo)) (hbo : bo < 256) (hd : d < 8) {ri lf ha : List Int32} {P c : Nat} (hc : c < 3 * P) (hP : P ≤ 7) (lr : ri.length = 7) (ll : lf.length = 7) (lh : ha.length = 8) (vp : ∀ i, i < P → ri[i]? = nw[5 + i]? ∧ lf[i]? = nw[12 + i]?) (vd : ha[d]? = nw[20 + d]?) : FR 3 184 [.ref 180, .int (Int32.ofNat c), .int (Int32.ofNat d)] H (some (.int (b01 (KK' bo d ri lf ha c))), ov H []) := by
  obtain ⟨v1, v2⟩ := vp (c / 3) (by omega)
  have cq := (m_cb (H := ov H [(180, mcl p0 p2 sz lim a fr kd nu sg fa pl wd td (pof pr)), (182, ia nw)]) (ov_hl hlen) (ov_at rfl (ov_lt hlen (by decide))) (ov_at rfl (ov_lt hlen (by decide))) h44 hbo hd (vd.symm.trans (gDi (L := ha) (i := d) (by omega))) (p := c / 3) (h := c % 3) (by omega) (by omega) (v1.symm.trans (gDi (L := ri) (i := c / 3) (by omega))) (v2.symm.trans (gDi (L := lf) (i := c / 3) (by omega))))
  unfold KK'
  generalize kb bo d (c % 3) (ri.getD (c / 3) 0) (lf.getD (c / 3) 0) (ha.getD d 0) = z at cq ⊢
  cases z with
  | false =>
    refine FR_ov (l := [(180, mcl p0 p2 sz lim a fr kd nu sg fa pl wd td (pof pr)), (182, ia nw)]) (l2 := [(180, mcl p0 p2 sz lim a fr kd nu sg fa pl wd td (pof pr)), (182, ia nw)]) (ov_id h0 (ov_c1 h1)) rfl (ov_id h0 (ov_c1 h1)) ?_
    refine RT_step (pc2 := 1) rfl (fun _ _ => rfl) ?_
    refine RT_step (pc2 := 2) rfl (fun _ _ => rfl) ?_
    refine rt_ico rfl ki_3 ?_
    refine rt_div rfl (by decide) (dv3 c (by omega)) ?_
    refine RT_step (pc2 := 5) rfl (fun _ _ => rfl) ?_
    refine RT_step (pc2 := 6) rfl (fun _ _ => rfl) ?_
    refine rt_ico rfl ki_3 ?_
    refine rt_rem rfl (by decide) (rm3 c (by omega)) ?_
    refine ow_iv1 (l2 := [(180, mcl p0 p2 sz lim a fr kd nu sg fa pl wd td (pof pr)), (182, ia nw)]) rfl rfl rfl rfl hlen rfl rfl rfl (cq.up (by decide)) rfl ?_
    exact ow_irt rfl rfl rfl
  | true =>
    refine FR_ov (l := [(180, mcl p0 p2 sz lim a fr kd nu sg fa pl wd td (pof pr)), (182, ia nw)]) (l2 := [(180, mcl p0 p2 sz lim a fr kd nu sg fa pl wd td (pof pr)), (182, ia nw)]) (ov_id h0 (ov_c1 h1)) rfl (ov_id h0 (ov_c1 h1)) ?_
    refine RT_step (pc2 := 1) rfl (fun _ _ => rfl) ?_
    refine RT_step (pc2 := 2) rfl (fun _ _ => rfl) ?_
    refine rt_ico rfl ki_3 ?_
    refine rt_div rfl (by decide) (dv3 c (by omega)) ?_
    refine RT_step (pc2 := 5) rfl (fun _ _ => rfl) ?_
    refine RT_step (pc2 := 6) rfl (fun _ _ => rfl) ?_
    refine rt_ico rfl ki_3 ?_
    refine rt_rem rfl (by decide) (rm3 c (by omega)) ?_
    refine ow_iv1 (l2 := [(180, mcl p0 p2 sz lim a fr kd nu sg fa pl wd td (pof pr)), (182, ia nw)]) rfl rfl rfl rfl hlen rfl rfl rfl (cq.up (by decide)) rfl ?_
    exact ow_irt rfl rfl rfl
theorem lf_0 {v k c : Int32} (h : v + c = k) : v = 0 ↔ k = c := by
  constructor
  · intro e; rw [← h, e, Int32.zero_add]
  · intro e
    have h2 : v + c - c = k - c := by rw [h]
    rw [Int32.add_sub_cancel, e, Int32.sub_self] at h2
    exact h2
theorem lf_1 {v k : Int32} {c : Nat} (h : v + Int32.ofNat c = k) : v + Int32.ofInt (-1) + Int32.ofNat (c + 1) = k := by
  rw [← h, ← n_add c 1, Int32.add_assoc, ← Int32.add_assoc (Int32.ofInt (-1)), Int32.add_comm (Int32.ofInt (-1)), Int32.add_assoc, show Int32.ofInt (-1) + Int32.ofNat 1 = 0 from by decide, Int32.add_zero]
theorem x_baL {H : List AE} {b : Nat} {k : Int32} (hb : b < 2097152) {dd : Nat} : ∀ (r i : Nat) (v : Int32) (L : List (Nat × Value)), i + r = 21 → v + Int32.ofNat (cnt b i) = k → ev_g L 0 = some (.int (Int32.ofNat b)) → ev_g L 2 = some (.int v) → ev_g L 3 = some (.int (Int32.ofNat i)) → RT MM dd 6 4 L [] H (some (.int (bta b k r i)), H) := by
  intro r
  induction r with
  | zero =>
    intro i v L hi hv l0 l2 l3
    have hi : i = 21 := by omega
    subst hi
    refine rt_ild rfl l3 ?_
    refine rt_bip rfl k8_21 ?_
    refine biT_ge rfl (n_le (Nat.le_refl _) (by decide)) ?_
    refine rt_ico rfl ki_m1 ?_
    exact ow_irt rfl rfl rfl
  | succ r ih =>
    intro i v L hi hv l0 l2 l3
    have hbn := bit_n (b := b) (i := i) (by omega) (by omega)
    unfold yk at hbn
    cases e : b.testBit i with
    | true =>
      rw [e] at hbn
      by_cases c : v = 0
      · rw [show bta b k (r + 1) i = Int32.ofNat i from if_pos ⟨e, (lf_0 hv).mp c⟩]
        refine rt_ild rfl l3 ?_
        refine rt_bip rfl k8_21 ?_
        refine biF_ge rfl (n_nle (by omega) (by decide)) ?_
        refine rt_ild rfl l0 ?_
        refine rt_ild rfl l3 ?_
        refine ba_iushr rfl ?_
        refine rt_ico rfl ki_1 ?_
        refine ba_iand rfl ?_
        rw [hbn]
        refine rt_ico rfl ki_1 ?_
        refine biT_ne rfl rfl ?_
        refine rt_ild rfl l2 ?_
        refine bcT_ne rfl c ?_
        refine rt_ild rfl l3 ?_
        exact ow_irt rfl rfl rfl
      · rw [show bta b k (r + 1) i = bta b k r (i + 1) from if_neg (fun q => c ((lf_0 hv).mpr q.2))]
        refine rt_ild rfl l3 ?_
        refine rt_bip rfl k8_21 ?_
        refine biF_ge rfl (n_nle (by omega) (by decide)) ?_
        refine rt_ild rfl l0 ?_
        refine rt_ild rfl l3 ?_
        refine ba_iushr rfl ?_
        refine rt_ico rfl ki_1 ?_
        refine ba_iand rfl ?_
        rw [hbn]
        refine rt_ico rfl ki_1 ?_
        refine biT_ne rfl rfl ?_
        refine rt_ild rfl l2 ?_
        refine bcF_ne rfl c ?_
        refine rt_inc rfl l2 (by decide +kernel) ?_
        refine rt_inc rfl (gs_o rfl l3 rfl) (by decide +kernel) ?_
        rw [in_1]
        refine RT_step (pc2 := 4) rfl (fun _ _ => rfl) ?_
        exact ih (i + 1) _ _ (by omega) (by rw [cnt_t e]; exact lf_1 hv) (gs_o rfl (gs_o rfl l0 rfl) rfl) (gs_o rfl gs_n rfl) gs_n
    | false =>
      rw [e] at hbn
      rw [show bta b k (r + 1) i = bta b k r (i + 1) from if_neg (fun q => by rw [e] at q; exact absurd q.1 (by decide))]
      refine rt_ild rfl l3 ?_
      refine rt_bip rfl k8_21 ?_
      refine biF_ge rfl (n_nle (by omega) (by decide)) ?_
      refine rt_ild rfl l0 ?_
      refine rt_ild rfl l3 ?_
      refine ba_iushr rfl ?_
      refine rt_ico rfl ki_1 ?_
      refine ba_iand rfl ?_
      rw [hbn]
      refine rt_ico rfl ki_1 ?_
      refine biF_ne rfl (by decide) ?_
      refine rt_inc rfl l3 (by decide +kernel) ?_
      rw [in_1]
      refine RT_step (pc2 := 4) rfl (fun _ _ => rfl) ?_
      exact ih (i + 1) _ _ (by omega) (by rw [cnt_f e]; exact hv) (gs_o rfl l0 rfl) (gs_o rfl l2 rfl) gs_n
theorem x_ba {H : List AE} {b : Nat} {k : Int32} (hb : b < 2097152) : FR 1 6 [.int (Int32.ofNat b), .int k] H (some (.int (bta b k 21 0)), ov H []) := by
  refine FR_of rfl ?_
  refine RT_step (pc2 := 1) rfl (fun _ _ => rfl) ?_
  refine RT_step (pc2 := 2) rfl (fun _ _ => rfl) ?_
  refine rt_ico rfl ki_0 ?_
  refine RT_step (pc2 := 4) rfl (fun _ _ => rfl) ?_
  exact x_baL hb 21 0 k _ (by omega) (Int32.add_zero k) rfl rfl rfl
theorem x_fa {H : List AE} (hlen : Nat.ble 204 H.length = true) {d b : Nat} {s se ss : Nat} {lt tq gb k : Int32} (hb : b < 2097152) (h0 : H[0]? = some (.inr (10, [.ref 1, .ref d, .ref s, .ref 23, .ref 31, .ref 39, .ref 105, .ref se, .ref ss, .ref 120, .ref 125, .ref 129, .ref 131, .int lt, .int (Int32.ofNat b), .int tq, .int gb]))) : FR 2 19 [.ref 0, .int k] H (some (.int (bta b k 21 0)), ov H []) := by
  refine FR_ov (l := [(0, .inr (10, [.ref 1, .ref d, .ref s, .ref 23, .ref 31, .ref 39, .ref 105, .ref se, .ref ss, .ref 120, .ref 125, .ref 129, .ref 131, .int lt, .int (Int32.ofNat b), .int tq, .int gb]))]) (l2 := [(0, .inr (10, [.ref 1, .ref d, .ref s, .ref 23, .ref 31, .ref 39, .ref 105, .ref se, .ref ss, .ref 120, .ref 125, .ref 129, .ref 131, .int lt, .int (Int32.ofNat b), .int tq, .int gb]))]) (ov_c1 h0) rfl (ov_c1 h0) ?_
  refine RT_step (pc2 := 1) rfl (fun _ _ => rfl) ?_
  refine ow_gf rfl rfl rfl hlen rfl ?_
  refine RT_step (pc2 := 5) rfl (fun _ _ => rfl) ?_
  refine ow_is1 (l2 := [(0, .inr (10, [.ref 1, .ref d, .ref s, .ref 23, .ref 31, .ref 39, .ref 105, .ref se, .ref ss, .ref 120, .ref 125, .ref 129, .ref 131, .int lt, .int (Int32.ofNat b), .int tq, .int gb]))]) rfl rfl rfl rfl rfl ((x_ba hb).up (by decide)) rfl ?_
  exact ow_irt rfl rfl rfl
theorem x_te {H : List AE} (hlen : Nat.ble 204 H.length = true) {d : Nat} {s se ss : Nat} {lt fb tq gb : Int32} (h0 : H[0]? = some (.inr (10, [.ref 1, .ref d, .ref s, .ref 23, .ref 31, .ref 39, .ref 105, .ref se, .ref ss, .ref 120, .ref 125, .ref 129, .ref 131, .int lt, .int fb, .int tq, .int gb]))) : FR 1 44 [.ref 0] H (some (.int tq), ov H []) := by
  refine FR_ov (l := [(0, .inr (10, [.ref 1, .ref d, .ref s, .ref 23, .ref 31, .ref 39, .ref 105, .ref se, .ref ss, .ref 120, .ref 125, .ref 129, .ref 131, .int lt, .int fb, .int tq, .int gb]))]) (l2 := [(0, .inr (10, [.ref 1, .ref d, .ref s, .ref 23, .ref 31, .ref 39, .ref 105, .ref se, .ref ss, .ref 120, .ref 125, .ref 129, .ref 131, .int lt, .int fb, .int tq, .int gb]))]) (ov_c1 h0) rfl (ov_c1 h0) ?_
  refine RT_step (pc2 := 1) rfl (fun _ _ => rfl) ?_
  refine ow_gf rfl rfl rfl hlen rfl ?_
  exact ow_irt rfl rfl rfl
theorem m_te {H : List AE} (hlen : Nat.ble 204 H.length = true) {sm pm pn fm te gu p0 p2 nu sg fa pl td : Int32} {sz lim a fr kd : Nat} {wd : Int64} {pr : List Value} (h0 : H[180]? = some (mcl p0 p2 sz lim a fr kd nu sg fa pl wd td (pof (.int sm :: .ref 192 :: .ref 193 :: .ref 194 :: .int pm :: .int pn :: .ref 195 :: .ref 196 :: .int fm :: .int te :: .int gu :: pr)))) : FR 1 286 [.ref 180] H (some (.int te), ov H [(180, mcl (Int32.ofNat 0) p2 sz lim a fr kd nu sg fa pl wd td (pof (.int sm :: .ref 192 :: .ref 193 :: .ref 194 :: .int pm :: .int pn :: .ref 195 :: .ref 196 :: .int fm :: .int te :: .int gu :: pr)))]) := by
  refine FR_ov (l := [(180, mcl p0 p2 sz lim a fr kd nu sg fa pl wd td (pof (.int sm :: .ref 192 :: .ref 193 :: .ref 194 :: .int pm :: .int pn :: .ref 195 :: .ref 196 :: .int fm :: .int te :: .int gu :: pr)))]) (l2 := [(180, mcl (Int32.ofNat 0) p2 sz lim a fr kd nu sg fa pl wd td (pof (.int sm :: .ref 192 :: .ref 193 :: .ref 194 :: .int pm :: .int pn :: .ref 195 :: .ref 196 :: .int fm :: .int te :: .int gu :: pr)))]) (ov_c1 h0) rfl rfl ?_
  refine RT_step (pc2 := 1) rfl (fun _ _ => rfl) ?_
  refine rt_ico rfl ki_0 ?_
  refine ow_pf rfl rfl rfl rfl rfl hlen rfl rfl ?_
  refine RT_step (pc2 := 6) rfl (fun _ _ => rfl) ?_
  refine ow_gf rfl rfl rfl hlen rfl ?_
  exact ow_irt rfl rfl rfl
theorem m_fa1 {H : List AE} (hlen : Nat.ble 204 H.length = true) {sm pm pn te gu p0 p2 nu sg fa pl td : Int32} {sz lim a fr kd : Nat} {wd : Int64} {pr : List Value} {m j : Nat} {fi : List Int32} {v : Int32} (h0 : H[180]? = some (mcl p0 p2 sz lim a fr kd nu sg fa pl wd td (pof (.int sm :: .ref 192 :: .ref 193 :: .ref 194 :: .int pm :: .int pn :: .ref 195 :: .ref 196 :: .int (Int32.ofNat m) :: .int te :: .int gu :: pr)))) (h1 : H[195]? = some (ia fi)) (hm : m ≤ 21) (hj : j < m) (hv : fi[j]? = some v) : FR 2 201 [.ref 180, .int (Int32.ofNat j)] H (some (.int v), ov H [(180, mcl (Int32.ofNat 0) p2 sz lim a fr kd nu sg fa pl wd td (pof (.int sm :: .ref 192 :: .ref 193 :: .ref 194 :: .int pm :: .int pn :: .ref 195 :: .ref 196 :: .int (Int32.ofNat m) :: .int te :: .int gu :: pr)))]) := by
  refine FR_ov (l := [(180, mcl p0 p2 sz lim a fr kd nu sg fa pl wd td (pof (.int sm :: .ref 192 :: .ref 193 :: .ref 194 :: .int pm :: .int pn :: .ref 195 :: .ref 196 :: .int (Int32.ofNat m) :: .int te :: .int gu :: pr))), (195, ia fi)]) (l2 := [(180, mcl (Int32.ofNat 0) p2 sz lim a fr kd nu sg fa pl wd td (pof (.int sm :: .ref 192 :: .ref 193 :: .ref 194 :: .int pm :: .int pn :: .ref 195 :: .ref 196 :: .int (Int32.ofNat m) :: .int te :: .int gu :: pr))), (195, ia fi)]) (ov_id h0 (ov_c1 h1)) rfl (ov_2 h1) ?_
  refine RT_step (pc2 := 1) rfl (fun _ _ => rfl) ?_
  refine rt_ico rfl ki_0 ?_
  refine ow_pf rfl rfl rfl rfl rfl hlen rfl rfl ?_
  refine RT_step (pc2 := 6) rfl (fun _ _ => rfl) ?_
  refine rt_ico rfl ki_0 ?_
  refine RT_step (pc2 := 8) rfl (fun _ _ => rfl) ?_
  refine ow_gf rfl rfl rfl hlen rfl ?_
  refine rt_ico rfl ki_1 ?_
  refine ba_isub rfl ?_
  refine ow_is1 (l2 := [(180, mcl (Int32.ofNat 0) p2 sz lim a fr kd nu sg fa pl wd td (pof (.int sm :: .ref 192 :: .ref 193 :: .ref 194 :: .int pm :: .int pn :: .ref 195 :: .ref 196 :: .int (Int32.ofNat m) :: .int te :: .int gu :: pr))), (195, ia fi)]) rfl rfl rfl rfl rfl ((m_isIn1 (n_le (Nat.zero_le j) (by omega)) (by rw [n_sub (show 1 ≤ m by omega)]; exact n_le (by omega) (by omega))).up (by decide)) rfl ?_
  refine bcF_eq rfl (by decide) ?_
  refine RT_step (pc2 := 20) rfl (fun _ _ => rfl) ?_
  refine ow_gf rfl rfl rfl hlen rfl ?_
  refine RT_step (pc2 := 24) rfl (fun _ _ => rfl) ?_
  refine ow_ialN rfl rfl hv (by omega) hlen rfl ?_
  refine RT_step (pc2 := 29) rfl (fun _ _ => rfl) ?_
  exact ow_irt rfl rfl rfl
theorem m_fa0 {H : List AE} (hlen : Nat.ble 204 H.length = true) {sm pm pn te gu p0 p2 nu sg fa pl td : Int32} {sz lim a fr kd : Nat} {wd : Int64} {pr : List Value} {m : Nat} {k : Int32} (h0 : H[180]? = some (mcl p0 p2 sz lim a fr kd nu sg fa pl wd td (pof (.int sm :: .ref 192 :: .ref 193 :: .ref 194 :: .int pm :: .int pn :: .ref 195 :: .ref 196 :: .int (Int32.ofNat m) :: .int te :: .int gu :: pr)))) (hm : m ≤ 21) (hk : k < Int32.ofNat 0 ∨ Int32.ofNat m ≤ k) : FR 2 201 [.ref 180, .int k] H (some (.int (-1 : Int32)), ov H [(180, mcl (Int32.ofNat 0) p2 sz lim a fr kd nu sg fa pl wd td (pof (.int sm :: .ref 192 :: .ref 193 :: .ref 194 :: .int pm :: .int pn :: .ref 195 :: .ref 196 :: .int (Int32.ofNat m) :: .int te :: .int gu :: pr)))]) := by
  have hs : (Int32.ofNat m - Int32.ofNat 1).toInt = (m : Int) - 1 := by
    rw [i32_sub (by rw [n_int (by omega), n_int (by decide)]; omega) (by rw [n_int (by omega), n_int (by decide)]; omega), n_int (by omega), n_int (by decide)]
    rfl
  refine FR_ov (l := [(180, mcl p0 p2 sz lim a fr kd nu sg fa pl wd td (pof (.int sm :: .ref 192 :: .ref 193 :: .ref 194 :: .int pm :: .int pn :: .ref 195 :: .ref 196 :: .int (Int32.ofNat m) :: .int te :: .int gu :: pr)))]) (l2 := [(180, mcl (Int32.ofNat 0) p2 sz lim a fr kd nu sg fa pl wd td (pof (.int sm :: .ref 192 :: .ref 193 :: .ref 194 :: .int pm :: .int pn :: .ref 195 :: .ref 196 :: .int (Int32.ofNat m) :: .int te :: .int gu :: pr)))]) (ov_c1 h0) rfl rfl ?_
  refine RT_step (pc2 := 1) rfl (fun _ _ => rfl) ?_
  refine rt_ico rfl ki_0 ?_
  refine ow_pf rfl rfl rfl rfl rfl hlen rfl rfl ?_
  refine RT_step (pc2 := 6) rfl (fun _ _ => rfl) ?_
  refine rt_ico rfl ki_0 ?_
  refine RT_step (pc2 := 8) rfl (fun _ _ => rfl) ?_
  refine ow_gf rfl rfl rfl hlen rfl ?_
  refine rt_ico rfl ki_1 ?_
  refine ba_isub rfl ?_
  refine ow_is1 (l2 := [(180, mcl (Int32.ofNat 0) p2 sz lim a fr kd nu sg fa pl wd td (pof (.int sm :: .ref 192 :: .ref 193 :: .ref 194 :: .int pm :: .int pn :: .ref 195 :: .ref 196 :: .int (Int32.ofNat m) :: .int te :: .int gu :: pr)))]) rfl rfl rfl rfl rfl ((m_isIn0 (hk.imp id (fun e => Int32.lt_iff_toInt_lt.mpr (by have e := Int32.le_iff_toInt_le.mp e; rw [n_int (by omega)] at e; rw [hs]; omega)))).up (by decide)) rfl ?_
  refine bcT_eq rfl rfl ?_
  refine rt_ico rfl ki_m1 ?_
  exact ow_irt rfl rfl rfl
theorem te_eq {hp hc hd : List AE} {r r2 : Int32} {k1 k2 : Nat} (G : hp_ok GG hp) (hlen : Nat.ble 204 hp.length = true) (C : CUR hp) (hz : ∃ z : Int32, hq hp 1 1 = some (.int z) ∧ hq hp 180 2 = some (.int z)) (hg : FIT hp) (f1 : FR k1 44 [.ref 0] hp (some (.int r), hc)) (f2 : FR k2 286 [.ref 180] hc (some (.int r2), hd)) : r2 = r := by
  obtain ⟨d, s, se, ss, lt, fb, tq, gb, e0, hd0, hs0, hse0, hss0⟩ := oc_0 G
  obtain ⟨n, lim, a, kd, pl, w, le, nu, tk, fa, fp, e1, hn, hw⟩ := oc_1 G
  obtain ⟨p0, n2, sz, lim2, a2, fr, kd2, nu2, sg, fa2, pl2, wd, td, sm, pm, pn, fm, te, gu, pr, e180, hn2⟩ := oc_180g G
  obtain rfl : n = n2 := by
    obtain ⟨z, z1, z2⟩ := hz
    rw [hq_obj e1] at z1
    rw [hq_obj e180] at z2
    have y1 : some (Value.int (Int32.ofNat n)) = some (.int z) := z1
    have y2 : some (Value.int (Int32.ofNat n2)) = some (.int z) := z2
    have e := congrArg Int32.toInt (Value.int.inj (Option.some.inj (y1.trans y2.symm)))
    rw [n_int (by omega), n_int (by omega)] at e
    omega
  obtain ⟨b, te2, hb, g1, g2, g3, g4, g5⟩ := hg
  rw [hq_obj e0] at g1 g4
  rw [hq_obj e180] at g2 g5
  have g1 : some (Value.int fb) = some (.int (Int32.ofNat b)) := g1
  have g4 : some (Value.int tq) = some (.int te2) := g4
  have g2 : some (Value.int fm) = some (.int (Int32.ofNat (cnt b 21))) := g2
  have g5 : some (Value.int te) = some (.int te2) := g5
  obtain rfl := Value.int.inj (Option.some.inj g1)
  obtain rfl := Value.int.inj (Option.some.inj g4)
  obtain rfl := Value.int.inj (Option.some.inj g2)
  obtain rfl := Value.int.inj (Option.some.inj g5)
  obtain ⟨q3, q4⟩ := vi_inj (FR.det f1 (x_te hlen e0))
  have q4 : hc = hp := q4
  subst q4
  obtain ⟨q5, -⟩ := vi_inj (FR.det f2 (m_te hlen e180))
  exact q5.trans q3.symm
theorem fa_eq {hp hc hd : List AE} {r r2 z1 : Int32} {k1 k2 : Nat} (G : hp_ok GG hp) (hlen : Nat.ble 204 hp.length = true) (C : CUR hp) (hz : ∃ z : Int32, hq hp 1 1 = some (.int z) ∧ hq hp 180 2 = some (.int z)) (hg : FIT hp) (f1 : FR k1 19 [.ref 0, .int z1] hp (some (.int r), hc)) (f2 : FR k2 201 [.ref 180, .int z1] hc (some (.int r2), hd)) : r2 = r := by
  obtain ⟨d, s, se, ss, lt, fb, tq, gb, e0, hd0, hs0, hse0, hss0⟩ := oc_0 G
  obtain ⟨n, lim, a, kd, pl, w, le, nu, tk, fa, fp, e1, hn, hw⟩ := oc_1 G
  obtain ⟨p0, n2, sz, lim2, a2, fr, kd2, nu2, sg, fa2, pl2, wd, td, sm, pm, pn, fm, te, gu, pr, e180, hn2⟩ := oc_180g G
  obtain rfl : n = n2 := by
    obtain ⟨z, z1, z2⟩ := hz
    rw [hq_obj e1] at z1
    rw [hq_obj e180] at z2
    have y1 : some (Value.int (Int32.ofNat n)) = some (.int z) := z1
    have y2 : some (Value.int (Int32.ofNat n2)) = some (.int z) := z2
    have e := congrArg Int32.toInt (Value.int.inj (Option.some.inj (y1.trans y2.symm)))
    rw [n_int (by omega), n_int (by omega)] at e
    omega
  obtain ⟨b, te2, hb, g1, g2, g3, g4, g5⟩ := hg
  rw [hq_obj e0] at g1 g4
  rw [hq_obj e180] at g2 g5
  have g1 : some (Value.int fb) = some (.int (Int32.ofNat b)) := g1
  have g4 : some (Value.int tq) = some (.int te2) := g4
  have g2 : some (Value.int fm) = some (.int (Int32.ofNat (cnt b 21))) := g2
  have g5 : some (Value.int te) = some (.int te2) := g5
  obtain rfl := Value.int.inj (Option.some.inj g1)
  obtain rfl := Value.int.inj (Option.some.inj g4)
  obtain rfl := Value.int.inj (Option.some.inj g2)
  obtain rfl := Value.int.inj (Option.some.inj g5)
  obtain ⟨fi, -, kf, e195⟩ := ai_of (hp := hp) (a := 195) (t := 1) (n := 21) (G.1 195 gc195 rfl).1
  have hm := cnt_le (b := b) 21
  have hy := x_fa (k := z1) hlen hb e0
  obtain ⟨q3, q4⟩ := vi_inj (FR.det f1 hy)
  have q4 : hc = hp := q4
  subst q4
  rcases i32_twoM (z := z1) (P := cnt b 21) (by omega) with ⟨j, hj, rfl⟩ | c
  · obtain ⟨c, c1, c2, c3⟩ := cnt_ex 21 hj
    subst c3
    have h1 := g3 c c2
    rw [hq_int e195] at h1
    obtain ⟨v, v1, v2⟩ := Option.map_eq_some_iff.mp h1
    cases v2
    obtain ⟨q5, -⟩ := vi_inj (FR.det f2 (m_fa1 hlen e180 e195 hm hj v1))
    rw [q3, q5, bta_y c2 21 0 (Nat.zero_le _) (by omega) (by omega)]
  · obtain ⟨q5, -⟩ := vi_inj (FR.det f2 (m_fa0 hlen e180 hm c))
    rw [q3, q5, bta_n 21 0 (fun j _ h2 h3 e => ?_)]
    have t1 := cnt_t h3
    have t2 := cnt_mono (b := b) (i := j + 1) (k := 20 - j)
    rw [show j + 1 + (20 - j) = 21 by omega] at t2
    subst e
    rcases c with c | c
    · exact n_ps (by omega) c
    · exact n_nle (by omega) (by omega) c
