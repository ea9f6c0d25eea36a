/-! ===== hears, guards: sets as numbers ===== -/
theorem n_and (a b : Nat) : Int32.ofNat a &&& Int32.ofNat b = Int32.ofNat (a &&& b) := by
  apply Int32.toBitVec_inj.mp
  show BitVec.ofNat 32 a &&& BitVec.ofNat 32 b = BitVec.ofNat 32 (a &&& b)
  exact BitVec.ofNat_and.symm
theorem n_or (a b : Nat) : Int32.ofNat a ||| Int32.ofNat b = Int32.ofNat (a ||| b) := by
  apply Int32.toBitVec_inj.mp
  show BitVec.ofNat 32 a ||| BitVec.ofNat 32 b = BitVec.ofNat 32 (a ||| b)
  exact BitVec.ofNat_or.symm
theorem sh_n : ∀ k, k < 8 → Int32.ofNat 1 <<< (Int32.ofNat k &&& 31) = Int32.ofNat (2 ^ k) := by decide +kernel
/-- whoever is watched by one of h; whom those of h watch -/
def wbL (X : Nat → Nat) (h : Nat) : Nat → Nat → Nat → Nat
  | 0, _, acc => acc
  | r + 1, i, acc => wbL X h r (i + 1) (if X i &&& h = 0 then acc else acc ||| 2 ^ i)
def nxL (Y : Nat → Nat) (h : Nat) : Nat → Nat → Nat → Nat
  | 0, _, acc => acc
  | r + 1, i, acc => nxL Y h r (i + 1) (if h.testBit i = true then acc ||| Y i else acc)
theorem wb_0 {X : Nat → Nat} {h r i acc : Nat} (c : X i &&& h = 0) : wbL X h (r + 1) i acc = wbL X h r (i + 1) acc := by
  show wbL X h r (i + 1) (if X i &&& h = 0 then acc else acc ||| 2 ^ i) = _
  rw [if_pos c]
theorem wb_1 {X : Nat → Nat} {h r i acc : Nat} (c : ¬ X i &&& h = 0) : wbL X h (r + 1) i acc = wbL X h r (i + 1) (acc ||| 2 ^ i) := by
  show wbL X h r (i + 1) (if X i &&& h = 0 then acc else acc ||| 2 ^ i) = _
  rw [if_neg c]
theorem nx_1 {Y : Nat → Nat} {h r i acc : Nat} (c : h.testBit i = true) : nxL Y h (r + 1) i acc = nxL Y h r (i + 1) (acc ||| Y i) := by
  show nxL Y h r (i + 1) (if h.testBit i = true then acc ||| Y i else acc) = _
  rw [if_pos c]
theorem nx_0 {Y : Nat → Nat} {h r i acc : Nat} (c : h.testBit i = false) : nxL Y h (r + 1) i acc = nxL Y h r (i + 1) acc := by
  show nxL Y h r (i + 1) (if h.testBit i = true then acc ||| Y i else acc) = _
  rw [if_neg (by rw [c]; decide)]
theorem wb_lt {X : Nat → Nat} {h P : Nat} : ∀ {r i acc : Nat}, i + r ≤ P → acc < 2 ^ P → wbL X h r i acc < 2 ^ P
  | 0, _, _, _, ha => ha
  | r + 1, i, acc, hi, ha => by
    show wbL X h r (i + 1) (if X i &&& h = 0 then acc else acc ||| 2 ^ i) < _
    by_cases c : X i &&& h = 0
    · rw [if_pos c]; exact wb_lt (by omega) ha
    · rw [if_neg c]; exact wb_lt (by omega) (or_lt ha (by omega))
theorem nx_lt {Y : Nat → Nat} {h m : Nat} : ∀ {r i acc : Nat}, (∀ k, k < i + r → Y k < 2 ^ m) → acc < 2 ^ m → nxL Y h r i acc < 2 ^ m
  | 0, _, _, _, ha => ha
  | r + 1, i, acc, hy, ha => by
    show nxL Y h r (i + 1) (if h.testBit i = true then acc ||| Y i else acc) < _
    by_cases c : h.testBit i = true
    · rw [if_pos c]; exact nx_lt (fun k hk => hy k (by omega)) (Nat.or_lt_two_pow ha (hy i (by omega)))
    · rw [if_neg c]; exact nx_lt (fun k hk => hy k (by omega)) ha
theorem or_t {a b j : Nat} : (a ||| b).testBit j = true ↔ a.testBit j = true ∨ b.testBit j = true := by
  rw [Nat.testBit_or, Bool.or_eq_true]
theorem wb_bit {X : Nat → Nat} {h : Nat} : ∀ {r i acc j : Nat}, (wbL X h r i acc).testBit j = true ↔ acc.testBit j = true ∨ (i ≤ j ∧ j < i + r ∧ ¬ X j &&& h = 0)
  | 0, i, acc, j => ⟨fun e => Or.inl e, fun e => e.elim id (fun e => by omega)⟩
  | r + 1, i, acc, j => by
    by_cases c : X i &&& h = 0
    · rw [wb_0 c, wb_bit]
      refine or_congr Iff.rfl ⟨fun e => ⟨by omega, by omega, e.2.2⟩, fun e => ⟨?_, by omega, e.2.2⟩⟩
      by_cases q : i = j
      · subst q; exact absurd c e.2.2
      · omega
    · rw [wb_1 c, wb_bit, or_t, Nat.testBit_two_pow]
      constructor
      · rintro ((e | e) | e)
        · exact Or.inl e
        · have e := of_decide_eq_true e
          subst e
          exact Or.inr ⟨Nat.le_refl _, by omega, c⟩
        · exact Or.inr ⟨by omega, by omega, e.2.2⟩
      · rintro (e | e)
        · exact Or.inl (Or.inl e)
        · by_cases q : i = j
          · exact Or.inl (Or.inr (decide_eq_true q))
          · exact Or.inr ⟨by omega, by omega, e.2.2⟩
theorem nx_bit {Y : Nat → Nat} {h : Nat} : ∀ {r i acc j : Nat}, (nxL Y h r i acc).testBit j = true ↔ acc.testBit j = true ∨ ∃ k, i ≤ k ∧ k < i + r ∧ h.testBit k = true ∧ (Y k).testBit j = true
  | 0, i, acc, j => ⟨fun e => Or.inl e, fun e => e.elim id (fun ⟨k, a, b, _⟩ => by omega)⟩
  | r + 1, i, acc, j => by
    by_cases c : h.testBit i = true
    · rw [nx_1 c, nx_bit, or_t]
      constructor
      · rintro ((e | e) | ⟨k, k1, k2, k3⟩)
        · exact Or.inl e
        · exact Or.inr ⟨i, Nat.le_refl _, by omega, c, e⟩
        · exact Or.inr ⟨k, by omega, by omega, k3⟩
      · rintro (e | ⟨k, k1, k2, k3⟩)
        · exact Or.inl (Or.inl e)
        · by_cases q : i = k
          · subst q; exact Or.inl (Or.inr k3.2)
          · exact Or.inr ⟨k, by omega, by omega, k3⟩
    · rw [nx_0 (Bool.eq_false_iff.mpr c), nx_bit]
      refine or_congr Iff.rfl ⟨fun ⟨k, k1, k2, k3⟩ => ⟨k, by omega, by omega, k3⟩, fun ⟨k, k1, k2, k3⟩ => ⟨k, ?_, by omega, k3⟩⟩
      by_cases q : i = k
      · subst q; exact absurd k3.1 c
      · omega
theorem and_nz {a b : Nat} : ¬ a &&& b = 0 ↔ ∃ k, a.testBit k = true ∧ b.testBit k = true := by
  constructor
  · intro h
    obtain ⟨k, hk⟩ := Nat.exists_testBit_of_ne_zero h
    rw [Nat.testBit_and, Bool.and_eq_true] at hk
    exact ⟨k, hk⟩
  · rintro ⟨k, k1, k2⟩ e
    have h : (a &&& b).testBit k = true := by rw [Nat.testBit_and, k1, k2]; rfl
    rw [e, Nat.zero_testBit] at h
    cases h
theorem bit_lt {x m k : Nat} (h : x < 2 ^ m) (hk : x.testBit k = true) : k < m := by
  by_cases c : k < m
  · exact c
  · have := Nat.testBit_lt_two_pow (Nat.lt_of_lt_of_le h (Nat.pow_le_pow_right (by decide) (Nat.le_of_not_lt c)))
    rw [this] at hk
    cases hk
/-- both count the same -/
theorem nx_wb {X Y : Nat → Nat} {P h : Nat} (hP : P ≤ 7) (hh : h < 2 ^ P) (hy : ∀ q, q < 7 → Y q < 2 ^ P) (hxy : ∀ p q, p < 7 → q < 7 → (X q).testBit p = (Y p).testBit q) : nxL Y h 7 0 h = h ||| wbL X h P 0 0 := by
  apply Nat.eq_of_testBit_eq
  intro j
  rw [Bool.eq_iff_iff, nx_bit, or_t, wb_bit]
  refine or_congr Iff.rfl ⟨fun ⟨k, k1, k2, k3, k4⟩ => Or.inr ?_, fun e => ?_⟩
  · have hj := bit_lt (hy k (by omega)) k4
    exact ⟨Nat.zero_le _, by omega, and_nz.mpr ⟨k, by rw [hxy k j (by omega) (by omega)]; exact k4, k3⟩⟩
  · rcases e with e | ⟨_, e1, e2⟩
    · rw [Nat.zero_testBit] at e; cases e
    · obtain ⟨k, k1, k2⟩ := and_nz.mp e2
      have hk := bit_lt hh k2
      exact ⟨k, Nat.zero_le _, by omega, k2, by rw [← hxy k j (by omega) (by omega)]; exact k1⟩
theorem p7_le {P : Nat} (hP : P ≤ 7) : 2 ^ P ≤ 128 := Nat.pow_le_pow_right (by decide) hP
def hrs (X : Nat → Nat) (P q : Nat) : Nat → Nat → Nat → Int32
  | 0, _, _ => -1
  | r + 1, n, h => if h.testBit q = true then Int32.ofNat n else hrs X P q r (n + 1) (h ||| wbL X h P 0 0)
def hrM (Y : Nat → Nat) (q : Nat) : Nat → Nat → Nat → Int32
  | 0, _, _ => -1
  | r + 1, n, h => if h.testBit q = true then Int32.ofNat n else hrM Y q r (n + 1) (nxL Y h 7 0 h)
theorem hr_eq {X Y : Nat → Nat} {P q : Nat} (hP : P ≤ 7) (hy : ∀ q, q < 7 → Y q < 2 ^ P) (hxy : ∀ p q, p < 7 → q < 7 → (X q).testBit p = (Y p).testBit q) : ∀ (r n h : Nat), h < 2 ^ P → hrM Y q r n h = hrs X P q r n h
  | 0, _, _, _ => rfl
  | r + 1, n, h, hh => by
    show (if h.testBit q = true then Int32.ofNat n else hrM Y q r (n + 1) (nxL Y h 7 0 h)) = (if h.testBit q = true then Int32.ofNat n else hrs X P q r (n + 1) (h ||| wbL X h P 0 0))
    rw [nx_wb hP hh hy hxy, hr_eq hP hy hxy r (n + 1) _ (Nat.or_lt_two_pow hh (wb_lt (by omega) (Nat.two_pow_pos P)))]
theorem x_wbL3 {H : List AE} (hlen : Nat.ble 204 H.length = true) {P Dn gl bo : Nat} {lw cl id : Int32} {wa : List Int32} {X : Nat → Nat} (hX : ∀ q, q < 7 → wa[q]? = some (Int32.ofNat (X q)) ∧ X q < 128) (hP : P ≤ 7) {h : Nat} (hh : h < 128) {dd : Nat} : ∀ (r i acc : Nat) (L : List (Nat × Value)), i + r = P → acc < 128 → ev_g L 0 = some (.ref 3) → ev_g L 1 = some (.int (Int32.ofNat h)) → ev_g L 2 = some (.int (Int32.ofNat acc)) → ev_g L 3 = some (.int (Int32.ofNat i)) → RT MM dd 82 4 L [] (ov H [(3, dcl3 P Dn lw cl id gl bo), (7, ia wa)]) (some (.int (Int32.ofNat (wbL X h r i acc))), ov H [(3, dcl3 P Dn lw cl id gl bo), (7, ia wa)]) := by
  intro r
  induction r with
  | zero =>
    intro i acc L hi ha l0 l1 l2 l3
    have hi : i = P := by omega
    subst hi
    refine rt_ild rfl l3 ?_
    refine rt_ald rfl l0 ?_
    refine ow_gf rfl rfl rfl hlen rfl ?_
    refine biT_ge rfl (n_le (Nat.le_refl _) (by omega)) ?_
    refine rt_ild rfl l2 ?_
    exact ow_irt rfl rfl rfl
  | succ r ih =>
    intro i acc L hi ha l0 l1 l2 l3
    obtain ⟨x1, x2⟩ := hX i (by omega)
    have xl : X i &&& h < 128 := Nat.and_lt_two_pow (n := 7) _ hh
    by_cases c : X i &&& h = 0
    · rw [wb_0 c]
      refine rt_ild rfl l3 ?_
      refine rt_ald rfl l0 ?_
      refine ow_gf rfl rfl rfl hlen rfl ?_
      refine biF_ge rfl (n_nle (by omega) (by omega)) ?_
      refine rt_ald rfl l0 ?_
      refine ow_gf rfl rfl rfl hlen rfl ?_
      refine rt_ild rfl l3 ?_
      refine ow_ialN rfl rfl x1 (by omega) hlen rfl ?_
      refine rt_ild rfl l1 ?_
      refine ba_iand rfl ?_
      rw [n_and]
      refine bcT_eq rfl (n_eq (b := 0) c) ?_
      refine rt_inc rfl l3 (by decide +kernel) ?_
      rw [in_1]
      refine RT_step (pc2 := 4) rfl (fun _ _ => rfl) ?_
      exact ih (i + 1) acc _ (by omega) ha (gs_o rfl l0 rfl) (gs_o rfl l1 rfl) (gs_o rfl l2 rfl) gs_n
    · rw [wb_1 c]
      refine rt_ild rfl l3 ?_
      refine rt_ald rfl l0 ?_
      refine ow_gf rfl rfl rfl hlen rfl ?_
      refine biF_ge rfl (n_nle (by omega) (by omega)) ?_
      refine rt_ald rfl l0 ?_
      refine ow_gf rfl rfl rfl hlen rfl ?_
      refine rt_ild rfl l3 ?_
      refine ow_ialN rfl rfl x1 (by omega) hlen rfl ?_
      refine rt_ild rfl l1 ?_
      refine ba_iand rfl ?_
      rw [n_and]
      refine bcF_eq rfl (n_ne (b := 0) c (by omega) (by decide)) ?_
      refine rt_ild rfl l2 ?_
      refine rt_ico rfl ki_1 ?_
      refine rt_ild rfl l3 ?_
      refine ba_ishl rfl ?_
      refine ba_ior rfl ?_
      rw [or_1 i (by omega) acc (by omega)]
      refine rt_ist rfl (by decide +kernel) ?_
      refine rt_inc rfl (gs_o rfl l3 rfl) (by decide +kernel) ?_
      rw [in_1]
      refine RT_step (pc2 := 4) rfl (fun _ _ => rfl) ?_
      exact ih (i + 1) _ _ (by omega) (or_lt (m := 7) ha (by omega)) (gs_o rfl (gs_o rfl l0 rfl) rfl) (gs_o rfl (gs_o rfl l1 rfl) rfl) (gs_o rfl gs_n rfl) gs_n
theorem x_wb3 {H : List AE} (hlen : Nat.ble 204 H.length = true) {P Dn gl bo : Nat} {lw cl id : Int32} {wa : List Int32} {X : Nat → Nat} (hX : ∀ q, q < 7 → wa[q]? = some (Int32.ofNat (X q)) ∧ X q < 128) (hP : P ≤ 7) {h : Nat} (hh : h < 128) (h1 : H[3]? = some (dcl3 P Dn lw cl id gl bo)) (h2 : H[7]? = some (ia wa)) : FR 1 82 [.ref 3, .int (Int32.ofNat h)] H (some (.int (Int32.ofNat (wbL X h P 0 0))), ov H []) := by
  refine FR_ov (l := [(3, dcl3 P Dn lw cl id gl bo), (7, ia wa)]) (l2 := [(3, dcl3 P Dn lw cl id gl bo), (7, ia wa)]) (ov_id h1 (ov_c1 h2)) rfl (ov_id h1 (ov_c1 h2)) ?_
  refine rt_ico rfl ki_0 ?_
  refine RT_step (pc2 := 2) rfl (fun _ _ => rfl) ?_
  refine rt_ico rfl ki_0 ?_
  refine RT_step (pc2 := 4) rfl (fun _ _ => rfl) ?_
  exact x_wbL3 hlen hX hP hh P 0 0 _ (by omega) (by decide) rfl rfl rfl rfl
theorem x_btL3 {H : List AE} (hlen : Nat.ble 204 H.length = true) {P Dn gl bo : Nat} {lw cl id : Int32} {wa : List Int32} {X : Nat → Nat} (hX : ∀ q, q < 7 → wa[q]? = some (Int32.ofNat (X q)) ∧ X q < 128) (hP : P ≤ 7) {p q : Nat} (hq : q < 7) {dd : Nat} : ∀ (r n h : Nat) (L : List (Nat × Value)), n + r = 7 → h < 128 → ev_g L 0 = some (.ref 3) → ev_g L 2 = some (.int (Int32.ofNat q)) → ev_g L 3 = some (.int (Int32.ofNat h)) → ev_g L 4 = some (.int (Int32.ofNat n)) → RT MM (dd + 1) 83 7 L [] (ov H [(3, dcl3 P Dn lw cl id gl bo), (7, ia wa)]) (some (.int (hrs X P q r n h)), ov H [(3, dcl3 P Dn lw cl id gl bo), (7, ia wa)]) := by
  intro r
  induction r with
  | zero =>
    intro n h L hi hh l0 l2 l3 l4
    have hi : n = 7 := by omega
    subst hi
    refine rt_il2 rfl l4 ?_
    refine rt_bip rfl k8_7 ?_
    refine biT_ge rfl (n_le (Nat.le_refl _) (by decide)) ?_
    refine rt_ico rfl ki_m1 ?_
    exact ow_irt rfl rfl rfl
  | succ r ih =>
    intro n h L hi hh l0 l2 l3 l4
    cases c : h.testBit q with
    | true =>
      rw [show hrs X P q (r + 1) n h = Int32.ofNat n from if_pos c]
      refine rt_il2 rfl l4 ?_
      refine rt_bip rfl k8_7 ?_
      refine biF_ge rfl (n_nle (by omega) (by decide)) ?_
      refine rt_ild rfl l3 ?_
      refine rt_ild rfl l2 ?_
      refine ba_iushr rfl ?_
      refine rt_ico rfl ki_1 ?_
      refine ba_iand rfl ?_
      rw [ushr_1 q (by omega) h (by omega)]
      refine rt_ico rfl ki_1 ?_
      refine biT_ne rfl (b01_1 c) ?_
      refine rt_il2 rfl l4 ?_
      exact ow_irt rfl rfl rfl
    | false =>
      rw [show hrs X P q (r + 1) n h = hrs X P q r (n + 1) (h ||| wbL X h P 0 0) from if_neg (by rw [c]; decide)]
      refine rt_il2 rfl l4 ?_
      refine rt_bip rfl k8_7 ?_
      refine biF_ge rfl (n_nle (by omega) (by decide)) ?_
      refine rt_ild rfl l3 ?_
      refine rt_ild rfl l2 ?_
      refine ba_iushr rfl ?_
      refine rt_ico rfl ki_1 ?_
      refine ba_iand rfl ?_
      rw [ushr_1 q (by omega) h (by omega)]
      refine rt_ico rfl ki_1 ?_
      refine biF_ne rfl (b01_0 c) ?_
      refine rt_ild rfl l3 ?_
      refine rt_ald rfl l0 ?_
      refine rt_ild rfl l3 ?_
      refine ow_iv1 (l2 := [(3, dcl3 P Dn lw cl id gl bo), (7, ia wa)]) rfl rfl rfl rfl hlen rfl rfl rfl ((x_wb3 (ov_hl hlen) hX hP hh (ov_at rfl (ov_lt hlen (by decide))) (ov_at rfl (ov_lt hlen (by decide)))).up (by omega)) rfl ?_
      refine ba_ior rfl ?_
      rw [n_or]
      refine rt_ist rfl (by decide +kernel) ?_
      refine rt_inc rfl (gs_o rfl l4 rfl) (by decide +kernel) ?_
      rw [in_1]
      refine RT_step (pc2 := 7) rfl (fun _ _ => rfl) ?_
      exact ih (n + 1) _ _ (by omega) (Nat.or_lt_two_pow (n := 7) hh (Nat.lt_of_lt_of_le (wb_lt (by omega) (Nat.two_pow_pos P)) (p7_le hP))) (gs_o rfl (gs_o rfl l0 rfl) rfl) (gs_o rfl (gs_o rfl l2 rfl) rfl) (gs_o rfl gs_n rfl) gs_n
theorem x_bt3 {H : List AE} (hlen : Nat.ble 204 H.length = true) {P Dn gl bo : Nat} {lw cl id : Int32} {wa : List Int32} {X : Nat → Nat} (hX : ∀ q, q < 7 → wa[q]? = some (Int32.ofNat (X q)) ∧ X q < 128) (hP : P ≤ 7) {p q : Nat} (hp : p < 7) (hq : q < 7) (h1 : H[3]? = some (dcl3 P Dn lw cl id gl bo)) (h2 : H[7]? = some (ia wa)) : FR 3 83 [.ref 3, .int (Int32.ofNat p), .int (Int32.ofNat q)] H (some (.int (hrs X P q 7 0 (2 ^ p))), ov H []) := by
  have h7 : 2 ^ p < 128 := Nat.pow_lt_pow_right (a := 2) (n := 7) (by decide) hp
  refine FR_ov (l := [(3, dcl3 P Dn lw cl id gl bo), (7, ia wa)]) (l2 := [(3, dcl3 P Dn lw cl id gl bo), (7, ia wa)]) (ov_id h1 (ov_c1 h2)) rfl (ov_id h1 (ov_c1 h2)) ?_
  refine rt_ico rfl ki_1 ?_
  refine RT_step (pc2 := 2) rfl (fun _ _ => rfl) ?_
  refine ba_ishl rfl ?_
  rw [sh_n p (by omega)]
  refine RT_step (pc2 := 4) rfl (fun _ _ => rfl) ?_
  refine rt_ico rfl ki_0 ?_
  refine RT_step (pc2 := 7) rfl (fun _ _ => rfl) ?_
  exact x_btL3 (p := p) hlen hX hP hq 7 0 _ _ (by omega) h7 rfl rfl rfl rfl
theorem x_he3_a {H : List AE} (hlen : Nat.ble 204 H.length = true) {s se ss : Nat} {lt fb tq gb : Int32} {P Dn gl bo : Nat} {lw cl id : Int32} {wa : List Int32} {X : Nat → Nat} (h0 : H[0]? = some (.inr (10, [.ref 1, .ref 3, .ref s, .ref 23, .ref 31, .ref 39, .ref 105, .ref se, .ref ss, .ref 120, .ref 125, .ref 129, .ref 131, .int lt, .int fb, .int tq, .int gb]))) (h1 : H[3]? = some (dcl3 P Dn lw cl id gl bo)) (h2 : H[7]? = some (ia wa)) (hX : ∀ q, q < 7 → wa[q]? = some (Int32.ofNat (X q)) ∧ X q < 128) (hP : P ≤ 7) {z w : Int32} (h : z < Int32.ofNat 0 ∨ Int32.ofNat P ≤ z) : FR 5 24 [.ref 0, .int z, .int w] H (some (.int (-1 : Int32)), ov H []) := by
  refine FR_ov (l := [(0, .inr (10, [.ref 1, .ref 3, .ref s, .ref 23, .ref 31, .ref 39, .ref 105, .ref se, .ref ss, .ref 120, .ref 125, .ref 129, .ref 131, .int lt, .int fb, .int tq, .int gb])), (3, dcl3 P Dn lw cl id gl bo), (7, ia wa)]) (l2 := [(0, .inr (10, [.ref 1, .ref 3, .ref s, .ref 23, .ref 31, .ref 39, .ref 105, .ref se, .ref ss, .ref 120, .ref 125, .ref 129, .ref 131, .int lt, .int fb, .int tq, .int gb])), (3, dcl3 P Dn lw cl id gl bo), (7, ia wa)]) (ov_id h0 (ov_id h1 (ov_c1 h2))) rfl (ov_id h0 (ov_id h1 (ov_c1 h2))) ?_
  refine RT_step (pc2 := 1) rfl (fun _ _ => rfl) ?_
  refine RT_step (pc2 := 2) rfl (fun _ _ => rfl) ?_
  refine ow_iv1 (l2 := [(0, .inr (10, [.ref 1, .ref 3, .ref s, .ref 23, .ref 31, .ref 39, .ref 105, .ref se, .ref ss, .ref 120, .ref 125, .ref 129, .ref 131, .int lt, .int fb, .int tq, .int gb])), (3, dcl3 P Dn lw cl id gl bo), (7, ia wa)]) rfl rfl rfl rfl hlen rfl rfl rfl ((x_isP3_0 (ov_hl hlen) (ov_at rfl (ov_lt hlen (by decide))) (ov_at rfl (ov_lt hlen (by decide))) (by omega) h).up (by decide)) rfl ?_
  refine bcT_eq rfl rfl ?_
  refine rt_ico rfl ki_m1 ?_
  exact ow_irt rfl rfl rfl
theorem x_he3_b {H : List AE} (hlen : Nat.ble 204 H.length = true) {s se ss : Nat} {lt fb tq gb : Int32} {P Dn gl bo : Nat} {lw cl id : Int32} {wa : List Int32} {X : Nat → Nat} (h0 : H[0]? = some (.inr (10, [.ref 1, .ref 3, .ref s, .ref 23, .ref 31, .ref 39, .ref 105, .ref se, .ref ss, .ref 120, .ref 125, .ref 129, .ref 131, .int lt, .int fb, .int tq, .int gb]))) (h1 : H[3]? = some (dcl3 P Dn lw cl id gl bo)) (h2 : H[7]? = some (ia wa)) (hX : ∀ q, q < 7 → wa[q]? = some (Int32.ofNat (X q)) ∧ X q < 128) (hP : P ≤ 7) {p : Nat} {w : Int32} (hp : p < P) (h : w < Int32.ofNat 0 ∨ Int32.ofNat P ≤ w) : FR 5 24 [.ref 0, .int (Int32.ofNat p), .int w] H (some (.int (-1 : Int32)), ov H []) := by
  refine FR_ov (l := [(0, .inr (10, [.ref 1, .ref 3, .ref s, .ref 23, .ref 31, .ref 39, .ref 105, .ref se, .ref ss, .ref 120, .ref 125, .ref 129, .ref 131, .int lt, .int fb, .int tq, .int gb])), (3, dcl3 P Dn lw cl id gl bo), (7, ia wa)]) (l2 := [(0, .inr (10, [.ref 1, .ref 3, .ref s, .ref 23, .ref 31, .ref 39, .ref 105, .ref se, .ref ss, .ref 120, .ref 125, .ref 129, .ref 131, .int lt, .int fb, .int tq, .int gb])), (3, dcl3 P Dn lw cl id gl bo), (7, ia wa)]) (ov_id h0 (ov_id h1 (ov_c1 h2))) rfl (ov_id h0 (ov_id h1 (ov_c1 h2))) ?_
  refine RT_step (pc2 := 1) rfl (fun _ _ => rfl) ?_
  refine RT_step (pc2 := 2) rfl (fun _ _ => rfl) ?_
  refine ow_iv1 (l2 := [(0, .inr (10, [.ref 1, .ref 3, .ref s, .ref 23, .ref 31, .ref 39, .ref 105, .ref se, .ref ss, .ref 120, .ref 125, .ref 129, .ref 131, .int lt, .int fb, .int tq, .int gb])), (3, dcl3 P Dn lw cl id gl bo), (7, ia wa)]) rfl rfl rfl rfl hlen rfl rfl rfl ((x_isP3_1 (ov_hl hlen) (ov_at rfl (ov_lt hlen (by decide))) (ov_at rfl (ov_lt hlen (by decide))) (by omega) hp).up (by decide)) rfl ?_
  refine bcF_eq rfl (by decide) ?_
  refine RT_step (pc2 := 9) rfl (fun _ _ => rfl) ?_
  refine RT_step (pc2 := 10) rfl (fun _ _ => rfl) ?_
  refine ow_iv1 (l2 := [(0, .inr (10, [.ref 1, .ref 3, .ref s, .ref 23, .ref 31, .ref 39, .ref 105, .ref se, .ref ss, .ref 120, .ref 125, .ref 129, .ref 131, .int lt, .int fb, .int tq, .int gb])), (3, dcl3 P Dn lw cl id gl bo), (7, ia wa)]) rfl rfl rfl rfl hlen rfl rfl rfl ((x_isP3_0 (ov_hl hlen) (ov_at rfl (ov_lt hlen (by decide))) (ov_at rfl (ov_lt hlen (by decide))) (by omega) h).up (by decide)) rfl ?_
  refine bcT_ne rfl rfl ?_
  refine rt_ico rfl ki_m1 ?_
  exact ow_irt rfl rfl rfl
theorem x_he3_c {H : List AE} (hlen : Nat.ble 204 H.length = true) {s se ss : Nat} {lt fb tq gb : Int32} {P Dn gl bo : Nat} {lw cl id : Int32} {wa : List Int32} {X : Nat → Nat} (h0 : H[0]? = some (.inr (10, [.ref 1, .ref 3, .ref s, .ref 23, .ref 31, .ref 39, .ref 105, .ref se, .ref ss, .ref 120, .ref 125, .ref 129, .ref 131, .int lt, .int fb, .int tq, .int gb]))) (h1 : H[3]? = some (dcl3 P Dn lw cl id gl bo)) (h2 : H[7]? = some (ia wa)) (hX : ∀ q, q < 7 → wa[q]? = some (Int32.ofNat (X q)) ∧ X q < 128) (hP : P ≤ 7) {p q : Nat} (hp : p < P) (hq : q < P) : FR 5 24 [.ref 0, .int (Int32.ofNat p), .int (Int32.ofNat q)] H (some (.int (hrs X P q 7 0 (2 ^ p))), ov H []) := by
  refine FR_ov (l := [(0, .inr (10, [.ref 1, .ref 3, .ref s, .ref 23, .ref 31, .ref 39, .ref 105, .ref se, .ref ss, .ref 120, .ref 125, .ref 129, .ref 131, .int lt, .int fb, .int tq, .int gb])), (3, dcl3 P Dn lw cl id gl bo), (7, ia wa)]) (l2 := [(0, .inr (10, [.ref 1, .ref 3, .ref s, .ref 23, .ref 31, .ref 39, .ref 105, .ref se, .ref ss, .ref 120, .ref 125, .ref 129, .ref 131, .int lt, .int fb, .int tq, .int gb])), (3, dcl3 P Dn lw cl id gl bo), (7, ia wa)]) (ov_id h0 (ov_id h1 (ov_c1 h2))) rfl (ov_id h0 (ov_id h1 (ov_c1 h2))) ?_
  refine RT_step (pc2 := 1) rfl (fun _ _ => rfl) ?_
  refine RT_step (pc2 := 2) rfl (fun _ _ => rfl) ?_
  refine ow_iv1 (l2 := [(0, .inr (10, [.ref 1, .ref 3, .ref s, .ref 23, .ref 31, .ref 39, .ref 105, .ref se, .ref ss, .ref 120, .ref 125, .ref 129, .ref 131, .int lt, .int fb, .int tq, .int gb])), (3, dcl3 P Dn lw cl id gl bo), (7, ia wa)]) rfl rfl rfl rfl hlen rfl rfl rfl ((x_isP3_1 (ov_hl hlen) (ov_at rfl (ov_lt hlen (by decide))) (ov_at rfl (ov_lt hlen (by decide))) (by omega) hp).up (by decide)) rfl ?_
  refine bcF_eq rfl (by decide) ?_
  refine RT_step (pc2 := 9) rfl (fun _ _ => rfl) ?_
  refine RT_step (pc2 := 10) rfl (fun _ _ => rfl) ?_
  refine ow_iv1 (l2 := [(0, .inr (10, [.ref 1, .ref 3, .ref s, .ref 23, .ref 31, .ref 39, .ref 105, .ref se, .ref ss, .ref 120, .ref 125, .ref 129, .ref 131, .int lt, .int fb, .int tq, .int gb])), (3, dcl3 P Dn lw cl id gl bo), (7, ia wa)]) rfl rfl rfl rfl hlen rfl rfl rfl ((x_isP3_1 (ov_hl hlen) (ov_at rfl (ov_lt hlen (by decide))) (ov_at rfl (ov_lt hlen (by decide))) (by omega) hq).up (by decide)) rfl ?_
  refine bcF_ne rfl (by decide) ?_
  refine RT_step (pc2 := 19) rfl (fun _ _ => rfl) ?_
  refine ow_gf rfl rfl rfl hlen rfl ?_
  refine RT_step (pc2 := 23) rfl (fun _ _ => rfl) ?_
  refine RT_step (pc2 := 24) rfl (fun _ _ => rfl) ?_
  refine ow_iv1 rfl rfl rfl rfl hlen rfl rfl rfl ((x_bt3 (ov_hl hlen) hX hP (by omega) (by omega) (ov_at rfl (ov_lt hlen (by decide))) (ov_at rfl (ov_lt hlen (by decide)))).up (by decide)) rfl ?_
  exact ow_irt rfl rfl rfl
theorem x_wbL13 {H : List AE} (hlen : Nat.ble 204 H.length = true) {P Dn gl bo : Nat} {lw cl id : Int32} {wa : List Int32} {X : Nat → Nat} (hX : ∀ q, q < 7 → wa[q]? = some (Int32.ofNat (X q)) ∧ X q < 128) (hP : P ≤ 7) {h : Nat} (hh : h < 128) {dd : Nat} : ∀ (r i acc : Nat) (L : List (Nat × Value)), i + r = P → acc < 128 → ev_g L 0 = some (.ref 13) → ev_g L 1 = some (.int (Int32.ofNat h)) → ev_g L 2 = some (.int (Int32.ofNat acc)) → ev_g L 3 = some (.int (Int32.ofNat i)) → RT MM dd 82 4 L [] (ov H [(13, dcl13 P Dn lw cl id gl bo), (17, ia wa)]) (some (.int (Int32.ofNat (wbL X h r i acc))), ov H [(13, dcl13 P Dn lw cl id gl bo), (17, ia wa)]) := by
  intro r
  induction r with
  | zero =>
    intro i acc L hi ha l0 l1 l2 l3
    have hi : i = P := by omega
    subst hi
    refine rt_ild rfl l3 ?_
    refine rt_ald rfl l0 ?_
    refine ow_gf rfl rfl rfl hlen rfl ?_
    refine biT_ge rfl (n_le (Nat.le_refl _) (by omega)) ?_
    refine rt_ild rfl l2 ?_
    exact ow_irt rfl rfl rfl
  | succ r ih =>
    intro i acc L hi ha l0 l1 l2 l3
    obtain ⟨x1, x2⟩ := hX i (by omega)
    have xl : X i &&& h < 128 := Nat.and_lt_two_pow (n := 7) _ hh
    by_cases c : X i &&& h = 0
    · rw [wb_0 c]
      refine rt_ild rfl l3 ?_
      refine rt_ald rfl l0 ?_
      refine ow_gf rfl rfl rfl hlen rfl ?_
      refine biF_ge rfl (n_nle (by omega) (by omega)) ?_
      refine rt_ald rfl l0 ?_
      refine ow_gf rfl rfl rfl hlen rfl ?_
      refine rt_ild rfl l3 ?_
      refine ow_ialN rfl rfl x1 (by omega) hlen rfl ?_
      refine rt_ild rfl l1 ?_
      refine ba_iand rfl ?_
      rw [n_and]
      refine bcT_eq rfl (n_eq (b := 0) c) ?_
      refine rt_inc rfl l3 (by decide +kernel) ?_
      rw [in_1]
      refine RT_step (pc2 := 4) rfl (fun _ _ => rfl) ?_
      exact ih (i + 1) acc _ (by omega) ha (gs_o rfl l0 rfl) (gs_o rfl l1 rfl) (gs_o rfl l2 rfl) gs_n
    · rw [wb_1 c]
      refine rt_ild rfl l3 ?_
      refine rt_ald rfl l0 ?_
      refine ow_gf rfl rfl rfl hlen rfl ?_
      refine biF_ge rfl (n_nle (by omega) (by omega)) ?_
      refine rt_ald rfl l0 ?_
      refine ow_gf rfl rfl rfl hlen rfl ?_
      refine rt_ild rfl l3 ?_
      refine ow_ialN rfl rfl x1 (by omega) hlen rfl ?_
      refine rt_ild rfl l1 ?_
      refine ba_iand rfl ?_
      rw [n_and]
      refine bcF_eq rfl (n_ne (b := 0) c (by omega) (by decide)) ?_
      refine rt_ild rfl l2 ?_
      refine rt_ico rfl ki_1 ?_
      refine rt_ild rfl l3 ?_
      refine ba_ishl rfl ?_
      refine ba_ior rfl ?_
      rw [or_1 i (by omega) acc (by omega)]
      refine rt_ist rfl (by decide +kernel) ?_
      refine rt_inc rfl (gs_o rfl l3 rfl) (by decide +kernel) ?_
      rw [in_1]
      refine RT_step (pc2 := 4) rfl (fun _ _ => rfl) ?_
      exact ih (i + 1) _ _ (by omega) (or_lt (m := 7) ha (by omega)) (gs_o rfl (gs_o rfl l0 rfl) rfl) (gs_o rfl (gs_o rfl l1 rfl) rfl) (gs_o rfl gs_n rfl) gs_n
theorem x_wb13 {H : List AE} (hlen : Nat.ble 204 H.length = true) {P Dn gl bo : Nat} {lw cl id : Int32} {wa : List Int32} {X : Nat → Nat} (hX : ∀ q, q < 7 → wa[q]? = some (Int32.ofNat (X q)) ∧ X q < 128) (hP : P ≤ 7) {h : Nat} (hh : h < 128) (h1 : H[13]? = some (dcl13 P Dn lw cl id gl bo)) (h2 : H[17]? = some (ia wa)) : FR 1 82 [.ref 13, .int (Int32.ofNat h)] H (some (.int (Int32.ofNat (wbL X h P 0 0))), ov H []) := by
  refine FR_ov (l := [(13, dcl13 P Dn lw cl id gl bo), (17, ia wa)]) (l2 := [(13, dcl13 P Dn lw cl id gl bo), (17, ia wa)]) (ov_id h1 (ov_c1 h2)) rfl (ov_id h1 (ov_c1 h2)) ?_
  refine rt_ico rfl ki_0 ?_
  refine RT_step (pc2 := 2) rfl (fun _ _ => rfl) ?_
  refine rt_ico rfl ki_0 ?_
  refine RT_step (pc2 := 4) rfl (fun _ _ => rfl) ?_
  exact x_wbL13 hlen hX hP hh P 0 0 _ (by omega) (by decide) rfl rfl rfl rfl
theorem x_btL13 {H : List AE} (hlen : Nat.ble 204 H.length = true) {P Dn gl bo : Nat} {lw cl id : Int32} {wa : List Int32} {X : Nat → Nat} (hX : ∀ q, q < 7 → wa[q]? = some (Int32.ofNat (X q)) ∧ X q < 128) (hP : P ≤ 7) {p q : Nat} (hq : q < 7) {dd : Nat} : ∀ (r n h : Nat) (L : List (Nat × Value)), n + r = 7 → h < 128 → ev_g L 0 = some (.ref 13) → ev_g L 2 = some (.int (Int32.ofNat q)) → ev_g L 3 = some (.int (Int32.ofNat h)) → ev_g L 4 = some (.int (Int32.ofNat n)) → RT MM (dd + 1) 83 7 L [] (ov H [(13, dcl13 P Dn lw cl id gl bo), (17, ia wa)]) (some (.int (hrs X P q r n h)), ov H [(13, dcl13 P Dn lw cl id gl bo), (17, ia wa)]) := by
  intro r
  induction r with
  | zero =>
    intro n h L hi hh l0 l2 l3 l4
    have hi : n = 7 := by omega
    subst hi
    refine rt_il2 rfl l4 ?_
    refine rt_bip rfl k8_7 ?_
    refine biT_ge rfl (n_le (Nat.le_refl _) (by decide)) ?_
    refine rt_ico rfl ki_m1 ?_
    exact ow_irt rfl rfl rfl
  | succ r ih =>
    intro n h L hi hh l0 l2 l3 l4
    cases c : h.testBit q with
    | true =>
      rw [show hrs X P q (r + 1) n h = Int32.ofNat n from if_pos c]
      refine rt_il2 rfl l4 ?_
      refine rt_bip rfl k8_7 ?_
      refine biF_ge rfl (n_nle (by omega) (by decide)) ?_
      refine rt_ild rfl l3 ?_
      refine rt_ild rfl l2 ?_
      refine ba_iushr rfl ?_
      refine rt_ico rfl ki_1 ?_
      refine ba_iand rfl ?_
      rw [ushr_1 q (by omega) h (by omega)]
      refine rt_ico rfl ki_1 ?_
      refine biT_ne rfl (b01_1 c) ?_
      refine rt_il2 rfl l4 ?_
      exact ow_irt rfl rfl rfl
    | false =>
      rw [show hrs X P q (r + 1) n h = hrs X P q r (n + 1) (h ||| wbL X h P 0 0) from if_neg (by rw [c]; decide)]
      refine rt_il2 rfl l4 ?_
      refine rt_bip rfl k8_7 ?_
      refine biF_ge rfl (n_nle (by omega) (by decide)) ?_
      refine rt_ild rfl l3 ?_
      refine rt_ild rfl l2 ?_
      refine ba_iushr rfl ?_
      refine rt_ico rfl ki_1 ?_
      refine ba_iand rfl ?_
      rw [ushr_1 q (by omega) h (by omega)]
      refine rt_ico rfl ki_1 ?_
      refine biF_ne rfl (b01_0 c) ?_
      refine rt_ild rfl l3 ?_
      refine rt_ald rfl l0 ?_
      refine rt_ild rfl l3 ?_
      refine ow_iv1 (l2 := [(13, dcl13 P Dn lw cl id gl bo), (17, ia wa)]) rfl rfl rfl rfl hlen rfl rfl rfl ((x_wb13 (ov_hl hlen) hX hP hh (ov_at rfl (ov_lt hlen (by decide))) (ov_at rfl (ov_lt hlen (by decide)))).up (by omega)) rfl ?_
      refine ba_ior rfl ?_
      rw [n_or]
      refine rt_ist rfl (by decide +kernel) ?_
      refine rt_inc rfl (gs_o rfl l4 rfl) (by decide +kernel) ?_
      rw [in_1]
      refine RT_step (pc2 := 7) rfl (fun _ _ => rfl) ?_
      exact ih (n + 1) _ _ (by omega) (Nat.or_lt_two_pow (n := 7) hh (Nat.lt_of_lt_of_le (wb_lt (by omega) (Nat.two_pow_pos P)) (p7_le hP))) (gs_o rfl (gs_o rfl l0 rfl) rfl) (gs_o rfl (gs_o rfl l2 rfl) rfl) (gs_o rfl gs_n rfl) gs_n
theorem x_bt13 {H : List AE} (hlen : Nat.ble 204 H.length = true) {P Dn gl bo : Nat} {lw cl id : Int32} {wa : List Int32} {X : Nat → Nat} (hX : ∀ q, q < 7 → wa[q]? = some (Int32.ofNat (X q)) ∧ X q < 128) (hP : P ≤ 7) {p q : Nat} (hp : p < 7) (hq : q < 7) (h1 : H[13]? = some (dcl13 P Dn lw cl id gl bo)) (h2 : H[17]? = some (ia wa)) : FR 3 83 [.ref 13, .int (Int32.ofNat p), .int (Int32.ofNat q)] H (some (.int (hrs X P q 7 0 (2 ^ p))), ov H []) := by
  have h7 : 2 ^ p < 128 := Nat.pow_lt_pow_right (a := 2) (n := 7) (by decide) hp
  refine FR_ov (l := [(13, dcl13 P Dn lw cl id gl bo), (17, ia wa)]) (l2 := [(13, dcl13 P Dn lw cl id gl bo), (17, ia wa)]) (ov_id h1 (ov_c1 h2)) rfl (ov_id h1 (ov_c1 h2)) ?_
  refine rt_ico rfl ki_1 ?_
  refine RT_step (pc2 := 2) rfl (fun _ _ => rfl) ?_
  refine ba_ishl rfl ?_
  rw [sh_n p (by omega)]
  refine RT_step (pc2 := 4) rfl (fun _ _ => rfl) ?_
  refine rt_ico rfl ki_0 ?_
  refine RT_step (pc2 := 7) rfl (fun _ _ => rfl) ?_
  exact x_btL13 (p := p) hlen hX hP hq 7 0 _ _ (by omega) h7 rfl rfl rfl rfl
theorem x_he13_a {H : List AE} (hlen : Nat.ble 204 H.length = true) {s se ss : Nat} {lt fb tq gb : Int32} {P Dn gl bo : Nat} {lw cl id : Int32} {wa : List Int32} {X : Nat → Nat} (h0 : H[0]? = some (.inr (10, [.ref 1, .ref 13, .ref s, .ref 23, .ref 31, .ref 39, .ref 105, .ref se, .ref ss, .ref 120, .ref 125, .ref 129, .ref 131, .int lt, .int fb, .int tq, .int gb]))) (h1 : H[13]? = some (dcl13 P Dn lw cl id gl bo)) (h2 : H[17]? = some (ia wa)) (hX : ∀ q, q < 7 → wa[q]? = some (Int32.ofNat (X q)) ∧ X q < 128) (hP : P ≤ 7) {z w : Int32} (h : z < Int32.ofNat 0 ∨ Int32.ofNat P ≤ z) : FR 5 24 [.ref 0, .int z, .int w] H (some (.int (-1 : Int32)), ov H []) := by
  refine FR_ov (l := [(0, .inr (10, [.ref 1, .ref 13, .ref s, .ref 23, .ref 31, .ref 39, .ref 105, .ref se, .ref ss, .ref 120, .ref 125, .ref 129, .ref 131, .int lt, .int fb, .int tq, .int gb])), (13, dcl13 P Dn lw cl id gl bo), (17, ia wa)]) (l2 := [(0, .inr (10, [.ref 1, .ref 13, .ref s, .ref 23, .ref 31, .ref 39, .ref 105, .ref se, .ref ss, .ref 120, .ref 125, .ref 129, .ref 131, .int lt, .int fb, .int tq, .int gb])), (13, dcl13 P Dn lw cl id gl bo), (17, ia wa)]) (ov_id h0 (ov_id h1 (ov_c1 h2))) rfl (ov_id h0 (ov_id h1 (ov_c1 h2))) ?_
  refine RT_step (pc2 := 1) rfl (fun _ _ => rfl) ?_
  refine RT_step (pc2 := 2) rfl (fun _ _ => rfl) ?_
  refine ow_iv1 (l2 := [(0, .inr (10, [.ref 1, .ref 13, .ref s, .ref 23, .ref 31, .ref 39, .ref 105, .ref se, .ref ss, .ref 120, .ref 125, .ref 129, .ref 131, .int lt, .int fb, .int tq, .int gb])), (13, dcl13 P Dn lw cl id gl bo), (17, ia wa)]) rfl rfl rfl rfl hlen rfl rfl rfl ((x_isP13_0 (ov_hl hlen) (ov_at rfl (ov_lt hlen (by decide))) (ov_at rfl (ov_lt hlen (by decide))) (by omega) h).up (by decide)) rfl ?_
  refine bcT_eq rfl rfl ?_
  refine rt_ico rfl ki_m1 ?_
  exact ow_irt rfl rfl rfl
theorem x_he13_b {H : List AE} (hlen : Nat.ble 204 H.length = true) {s se ss : Nat} {lt fb tq gb : Int32} {P Dn gl bo : Nat} {lw cl id : Int32} {wa : List Int32} {X : Nat → Nat} (h0 : H[0]? = some (.inr (10, [.ref 1, .ref 13, .ref s, .ref 23, .ref 31, .ref 39, .ref 105, .ref se, .ref ss, .ref 120, .ref 125, .ref 129, .ref 131, .int lt, .int fb, .int tq, .int gb]))) (h1 : H[13]? = some (dcl13 P Dn lw cl id gl bo)) (h2 : H[17]? = some (ia wa)) (hX : ∀ q, q < 7 → wa[q]? = some (Int32.ofNat (X q)) ∧ X q < 128) (hP : P ≤ 7) {p : Nat} {w : Int32} (hp : p < P) (h : w < Int32.ofNat 0 ∨ Int32.ofNat P ≤ w) : FR 5 24 [.ref 0, .int (Int32.ofNat p), .int w] H (some (.int (-1 : Int32)), ov H []) := by
  refine FR_ov (l := [(0, .inr (10, [.ref 1, .ref 13, .ref s, .ref 23, .ref 31, .ref 39, .ref 105, .ref se, .ref ss, .ref 120, .ref 125, .ref 129, .ref 131, .int lt, .int fb, .int tq, .int gb])), (13, dcl13 P Dn lw cl id gl bo), (17, ia wa)]) (l2 := [(0, .inr (10, [.ref 1, .ref 13, .ref s, .ref 23, .ref 31, .ref 39, .ref 105, .ref se, .ref ss, .ref 120, .ref 125, .ref 129, .ref 131, .int lt, .int fb, .int tq, .int gb])), (13, dcl13 P Dn lw cl id gl bo), (17, ia wa)]) (ov_id h0 (ov_id h1 (ov_c1 h2))) rfl (ov_id h0 (ov_id h1 (ov_c1 h2))) ?_
  refine RT_step (pc2 := 1) rfl (fun _ _ => rfl) ?_
  refine RT_step (pc2 := 2) rfl (fun _ _ => rfl) ?_
  refine ow_iv1 (l2 := [(0, .inr (10, [.ref 1, .ref 13, .ref s, .ref 23, .ref 31, .ref 39, .ref 105, .ref se, .ref ss, .ref 120, .ref 125, .ref 129, .ref 131, .int lt, .int fb, .int tq, .int gb])), (13, dcl13 P Dn lw cl id gl bo), (17, ia wa)]) rfl rfl rfl rfl hlen rfl rfl rfl ((x_isP13_1 (ov_hl hlen) (ov_at rfl (ov_lt hlen (by decide))) (ov_at rfl (ov_lt hlen (by decide))) (by omega) hp).up (by decide)) rfl ?_
  refine bcF_eq rfl (by decide) ?_
  refine RT_step (pc2 := 9) rfl (fun _ _ => rfl) ?_
  refine RT_step (pc2 := 10) rfl (fun _ _ => rfl) ?_
  refine ow_iv1 (l2 := [(0, .inr (10, [.ref 1, .ref 13, .ref s, .ref 23, .ref 31, .ref 39, .ref 105, .ref se, .ref ss, .ref 120, .ref 125, .ref 129, .ref 131, .int lt, .int fb, .int tq, .int gb])), (13, dcl13 P Dn lw cl id gl bo), (17, ia wa)]) rfl rfl rfl rfl hlen rfl rfl rfl ((x_isP13_0 (ov_hl hlen) (ov_at rfl (ov_lt hlen (by decide))) (ov_at rfl (ov_lt hlen (by decide))) (by omega) h).up (by decide)) rfl ?_
  refine bcT_ne rfl rfl ?_
  refine rt_ico rfl ki_m1 ?_
  exact ow_irt rfl rfl rfl
theorem x_he13_c {H : List AE} (hlen : Nat.ble 204 H.length = true) {s se ss : Nat} {lt fb tq gb : Int32} {P Dn gl bo : Nat} {lw cl id : Int32} {wa : List Int32} {X : Nat → Nat} (h0 : H[0]? = some (.inr (10, [.ref 1, .ref 13, .ref s, .ref 23, .ref 31, .ref 39, .ref 105, .ref se, .ref ss, .ref 120, .ref 125, .ref 129, .ref 131, .int lt, .int fb, .int tq, .int gb]))) (h1 : H[13]? = some (dcl13 P Dn lw cl id gl bo)) (h2 : H[17]? = some (ia wa)) (hX : ∀ q, q < 7 → wa[q]? = some (Int32.ofNat (X q)) ∧ X q < 128) (hP : P ≤ 7) {p q : Nat} (hp : p < P) (hq : q < P) : FR 5 24 [.ref 0, .int (Int32.ofNat p), .int (Int32.ofNat q)] H (some (.int (hrs X P q 7 0 (2 ^ p))), ov H []) := by
  refine FR_ov (l := [(0, .inr (10, [.ref 1, .ref 13, .ref s, .ref 23, .ref 31, .ref 39, .ref 105, .ref se, .ref ss, .ref 120, .ref 125, .ref 129, .ref 131, .int lt, .int fb, .int tq, .int gb])), (13, dcl13 P Dn lw cl id gl bo), (17, ia wa)]) (l2 := [(0, .inr (10, [.ref 1, .ref 13, .ref s, .ref 23, .ref 31, .ref 39, .ref 105, .ref se, .ref ss, .ref 120, .ref 125, .ref 129, .ref 131, .int lt, .int fb, .int tq, .int gb])), (13, dcl13 P Dn lw cl id gl bo), (17, ia wa)]) (ov_id h0 (ov_id h1 (ov_c1 h2))) rfl (ov_id h0 (ov_id h1 (ov_c1 h2))) ?_
  refine RT_step (pc2 := 1) rfl (fun _ _ => rfl) ?_
  refine RT_step (pc2 := 2) rfl (fun _ _ => rfl) ?_
  refine ow_iv1 (l2 := [(0, .inr (10, [.ref 1, .ref 13, .ref s, .ref 23, .ref 31, .ref 39, .ref 105, .ref se, .ref ss, .ref 120, .ref 125, .ref 129, .ref 131, .int lt, .int fb, .int tq, .int gb])), (13, dcl13 P Dn lw cl id gl bo), (17, ia wa)]) rfl rfl rfl rfl hlen rfl rfl rfl ((x_isP13_1 (ov_hl hlen) (ov_at rfl (ov_lt hlen (by decide))) (ov_at rfl (ov_lt hlen (by decide))) (by omega) hp).up (by decide)) rfl ?_
  refine bcF_eq rfl (by decide) ?_
  refine RT_step (pc2 := 9) rfl (fun _ _ => rfl) ?_
  refine RT_step (pc2 := 10) rfl (fun _ _ => rfl) ?_
  refine ow_iv1 (l2 := [(0, .inr (10, [.ref 1, .ref 13, .ref s, .ref 23, .ref 31, .ref 39, .ref 105, .ref se, .ref ss, .ref 120, .ref 125, .ref 129, .ref 131, .int lt, .int fb, .int tq, .int gb])), (13, dcl13 P Dn lw cl id gl bo), (17, ia wa)]) rfl rfl rfl rfl hlen rfl rfl rfl ((x_isP13_1 (ov_hl hlen) (ov_at rfl (ov_lt hlen (by decide))) (ov_at rfl (ov_lt hlen (by decide))) (by omega) hq).up (by decide)) rfl ?_
  refine bcF_ne rfl (by decide) ?_
  refine RT_step (pc2 := 19) rfl (fun _ _ => rfl) ?_
  refine ow_gf rfl rfl rfl hlen rfl ?_
  refine RT_step (pc2 := 23) rfl (fun _ _ => rfl) ?_
  refine RT_step (pc2 := 24) rfl (fun _ _ => rfl) ?_
  refine ow_iv1 rfl rfl rfl rfl hlen rfl rfl rfl ((x_bt13 (ov_hl hlen) hX hP (by omega) (by omega) (ov_at rfl (ov_lt hlen (by decide))) (ov_at rfl (ov_lt hlen (by decide)))).up (by decide)) rfl ?_
  exact ow_irt rfl rfl rfl
theorem m_nx_he {H : List AE} (hlen : Nat.ble 204 H.length = true) {p2 nu sg fa pl td : Int32} {sz lim a fr kd : Nat} {wd : Int64} {pr : List Value} {nw : List Int32} {Y : Nat → Nat} (hY : ∀ q, q < 7 → nw[45 + q]? = some (Int32.ofNat (Y q)) ∧ Y q < 128) {h : Nat} (hh : h < 128) {v2 : Int32} {v4 : Int32} {dd : Nat} {q : ev_R} : ∀ (r i acc : Nat) (L : List (Nat × Value)), i + r = 7 → acc < 128 → ev_g L 0 = some (.ref 180) → ev_g L 2 = some (.int v2) → ev_g L 3 = some (.int (Int32.ofNat h)) → ev_g L 4 = some (.int v4) → ev_g L 5 = some (.int (Int32.ofNat acc)) → ev_g L 6 = some (.int (Int32.ofNat i)) → (∀ L2, ev_g L2 0 = some (.ref 180) → ev_g L2 2 = some (.int v2) → ev_g L2 3 = some (.int (Int32.ofNat h)) → ev_g L2 4 = some (.int v4) → ev_g L2 5 = some (.int (Int32.ofNat (nxL Y h r i acc))) → RT MM (dd + 1) 210 91 L2 [] (ov H [(180, mcl (Int32.ofNat 0) p2 sz lim a fr kd nu sg fa pl wd td (pof pr)), (182, ia nw)]) q) → RT MM (dd + 1) 210 54 L [] (ov H [(180, mcl (Int32.ofNat 0) p2 sz lim a fr kd nu sg fa pl wd td (pof pr)), (182, ia nw)]) q := by
  intro r
  induction r with
  | zero =>
    intro i acc L hi ha l0 l2 l3 l4 la lk hq
    have hi : i = 7 := by omega
    subst hi
    refine rt_il2 rfl lk ?_
    refine rt_bip rfl k8_7 ?_
    refine biT_ge rfl (n_le (Nat.le_refl _) (by decide)) ?_
    exact hq _ l0 l2 l3 l4 la
  | succ r ih =>
    intro i acc L hi ha l0 l2 l3 l4 la lk hq
    obtain ⟨x1, x2⟩ := hY i (by omega)
    cases c : h.testBit i with
    | true =>
      rw [nx_1 c] at hq
      refine rt_il2 rfl lk ?_
      refine rt_bip rfl k8_7 ?_
      refine biF_ge rfl (n_nle (by omega) (by decide)) ?_
      refine rt_ild rfl l3 ?_
      refine rt_il2 rfl lk ?_
      refine ow_is1 (l2 := [(180, mcl (Int32.ofNat 0) p2 sz lim a fr kd nu sg fa pl wd td (pof pr)), (182, ia nw)]) rfl rfl rfl rfl rfl ((m_has (x := h) (k := i) (by omega) (by omega)).up (by omega)) rfl ?_
      refine bcF_eq rfl (b01_t c) ?_
      refine rt_il2 rfl la ?_
      refine rt_ald rfl l0 ?_
      refine ow_gf rfl rfl rfl hlen rfl ?_
      refine rt_bip rfl k8_45 ?_
      refine rt_il2 rfl lk ?_
      refine ba_iadd rfl ?_
      rw [n_add]
      refine ow_ialN rfl rfl x1 (by omega) hlen rfl ?_
      refine ba_ior rfl ?_
      rw [n_or]
      refine rt_is2 rfl (by decide +kernel) ?_
      refine rt_inc rfl (gs_o rfl lk rfl) (by decide +kernel) ?_
      rw [in_1]
      refine RT_step (pc2 := 54) rfl (fun _ _ => rfl) ?_
      exact ih (i + 1) _ _ (by omega) (Nat.or_lt_two_pow (n := 7) ha x2) (gs_o rfl (gs_o rfl l0 rfl) rfl) (gs_o rfl (gs_o rfl l2 rfl) rfl) (gs_o rfl (gs_o rfl l3 rfl) rfl) (gs_o rfl (gs_o rfl l4 rfl) rfl) (gs_o rfl gs_n rfl) gs_n hq
    | false =>
      rw [nx_0 c] at hq
      refine rt_il2 rfl lk ?_
      refine rt_bip rfl k8_7 ?_
      refine biF_ge rfl (n_nle (by omega) (by decide)) ?_
      refine rt_ild rfl l3 ?_
      refine rt_il2 rfl lk ?_
      refine ow_is1 (l2 := [(180, mcl (Int32.ofNat 0) p2 sz lim a fr kd nu sg fa pl wd td (pof pr)), (182, ia nw)]) rfl rfl rfl rfl rfl ((m_has (x := h) (k := i) (by omega) (by omega)).up (by omega)) rfl ?_
      refine bcT_eq rfl (b01_f c) ?_
      refine rt_inc rfl lk (by decide +kernel) ?_
      rw [in_1]
      refine RT_step (pc2 := 54) rfl (fun _ _ => rfl) ?_
      exact ih (i + 1) _ _ (by omega) ha (gs_o rfl l0 rfl) (gs_o rfl l2 rfl) (gs_o rfl l3 rfl) (gs_o rfl l4 rfl) (gs_o rfl la rfl) gs_n hq
theorem m_nx_gu {H : List AE} (hlen : Nat.ble 204 H.length = true) {p2 nu sg fa pl td : Int32} {sz lim a fr kd : Nat} {wd : Int64} {pr : List Value} {nw : List Int32} {Y : Nat → Nat} (hY : ∀ q, q < 7 → nw[45 + q]? = some (Int32.ofNat (Y q)) ∧ Y q < 128) {h : Nat} (hh : h < 128) {v1 : Int32} {v2 : Int32} {dd : Nat} {q : ev_R} : ∀ (r i acc : Nat) (L : List (Nat × Value)), i + r = 7 → acc < 128 → ev_g L 0 = some (.ref 180) → ev_g L 1 = some (.int v1) → ev_g L 2 = some (.int v2) → ev_g L 3 = some (.int (Int32.ofNat h)) → ev_g L 4 = some (.int (Int32.ofNat acc)) → ev_g L 5 = some (.int (Int32.ofNat i)) → (∀ L2, ev_g L2 0 = some (.ref 180) → ev_g L2 1 = some (.int v1) → ev_g L2 2 = some (.int v2) → ev_g L2 3 = some (.int (Int32.ofNat h)) → ev_g L2 4 = some (.int (Int32.ofNat (nxL Y h r i acc))) → RT MM (dd + 1) 208 67 L2 [] (ov H [(180, mcl (Int32.ofNat 0) p2 sz lim a fr kd nu sg fa pl wd td (pof pr)), (182, ia nw)]) q) → RT MM (dd + 1) 208 30 L [] (ov H [(180, mcl (Int32.ofNat 0) p2 sz lim a fr kd nu sg fa pl wd td (pof pr)), (182, ia nw)]) q := by
  intro r
  induction r with
  | zero =>
    intro i acc L hi ha l0 l1 l2 l3 la lk hq
    have hi : i = 7 := by omega
    subst hi
    refine rt_il2 rfl lk ?_
    refine rt_bip rfl k8_7 ?_
    refine biT_ge rfl (n_le (Nat.le_refl _) (by decide)) ?_
    exact hq _ l0 l1 l2 l3 la
  | succ r ih =>
    intro i acc L hi ha l0 l1 l2 l3 la lk hq
    obtain ⟨x1, x2⟩ := hY i (by omega)
    cases c : h.testBit i with
    | true =>
      rw [nx_1 c] at hq
      refine rt_il2 rfl lk ?_
      refine rt_bip rfl k8_7 ?_
      refine biF_ge rfl (n_nle (by omega) (by decide)) ?_
      refine rt_ild rfl l3 ?_
      refine rt_il2 rfl lk ?_
      refine ow_is1 (l2 := [(180, mcl (Int32.ofNat 0) p2 sz lim a fr kd nu sg fa pl wd td (pof pr)), (182, ia nw)]) rfl rfl rfl rfl rfl ((m_has (x := h) (k := i) (by omega) (by omega)).up (by omega)) rfl ?_
      refine bcF_eq rfl (b01_t c) ?_
      refine rt_il2 rfl la ?_
      refine rt_ald rfl l0 ?_
      refine ow_gf rfl rfl rfl hlen rfl ?_
      refine rt_bip rfl k8_45 ?_
      refine rt_il2 rfl lk ?_
      refine ba_iadd rfl ?_
      rw [n_add]
      refine ow_ialN rfl rfl x1 (by omega) hlen rfl ?_
      refine ba_ior rfl ?_
      rw [n_or]
      refine rt_is2 rfl (by decide +kernel) ?_
      refine rt_inc rfl (gs_o rfl lk rfl) (by decide +kernel) ?_
      rw [in_1]
      refine RT_step (pc2 := 30) rfl (fun _ _ => rfl) ?_
      exact ih (i + 1) _ _ (by omega) (Nat.or_lt_two_pow (n := 7) ha x2) (gs_o rfl (gs_o rfl l0 rfl) rfl) (gs_o rfl (gs_o rfl l1 rfl) rfl) (gs_o rfl (gs_o rfl l2 rfl) rfl) (gs_o rfl (gs_o rfl l3 rfl) rfl) (gs_o rfl gs_n rfl) gs_n hq
    | false =>
      rw [nx_0 c] at hq
      refine rt_il2 rfl lk ?_
      refine rt_bip rfl k8_7 ?_
      refine biF_ge rfl (n_nle (by omega) (by decide)) ?_
      refine rt_ild rfl l3 ?_
      refine rt_il2 rfl lk ?_
      refine ow_is1 (l2 := [(180, mcl (Int32.ofNat 0) p2 sz lim a fr kd nu sg fa pl wd td (pof pr)), (182, ia nw)]) rfl rfl rfl rfl rfl ((m_has (x := h) (k := i) (by omega) (by omega)).up (by omega)) rfl ?_
      refine bcT_eq rfl (b01_f c) ?_
      refine rt_inc rfl lk (by decide +kernel) ?_
      rw [in_1]
      refine RT_step (pc2 := 30) rfl (fun _ _ => rfl) ?_
      exact ih (i + 1) _ _ (by omega) ha (gs_o rfl l0 rfl) (gs_o rfl l1 rfl) (gs_o rfl l2 rfl) (gs_o rfl l3 rfl) (gs_o rfl la rfl) gs_n hq
theorem m_heL {H : List AE} (hlen : Nat.ble 204 H.length = true) {p2 nu sg fa pl td : Int32} {sz lim a fr kd : Nat} {wd : Int64} {pr : List Value} {nw : List Int32} {Y : Nat → Nat} (hY : ∀ q, q < 7 → nw[45 + q]? = some (Int32.ofNat (Y q)) ∧ Y q < 128) {q : Nat} (hq : q < 7) {dd : Nat} : ∀ (r n h : Nat) (L : List (Nat × Value)), n + r = 7 → h < 128 → ev_g L 0 = some (.ref 180) → ev_g L 2 = some (.int (Int32.ofNat q)) → ev_g L 3 = some (.int (Int32.ofNat h)) → ev_g L 4 = some (.int (Int32.ofNat n)) → RT MM (dd + 1) 210 30 L [] (ov H [(180, mcl (Int32.ofNat 0) p2 sz lim a fr kd nu sg fa pl wd td (pof pr)), (182, ia nw)]) (some (.int (hrM Y q r n h)), ov H [(180, mcl (Int32.ofNat 0) p2 sz lim a fr kd nu sg fa pl wd td (pof pr)), (182, ia nw)]) := by
  intro r
  induction r with
  | zero =>
    intro n h L hi hh l0 l2 l3 l4
    have hi : n = 7 := by omega
    subst hi
    refine rt_il2 rfl l4 ?_
    refine rt_bip rfl k8_7 ?_
    refine biT_ge rfl (n_le (Nat.le_refl _) (by decide)) ?_
    refine rt_ico rfl ki_m1 ?_
    exact ow_irt rfl rfl rfl
  | succ r ih =>
    intro n h L hi hh l0 l2 l3 l4
    cases c : h.testBit q with
    | true =>
      rw [show hrM Y q (r + 1) n h = Int32.ofNat n from if_pos c]
      refine rt_il2 rfl l4 ?_
      refine rt_bip rfl k8_7 ?_
      refine biF_ge rfl (n_nle (by omega) (by decide)) ?_
      refine rt_ild rfl l3 ?_
      refine rt_ild rfl l2 ?_
      refine ow_is1 (l2 := [(180, mcl (Int32.ofNat 0) p2 sz lim a fr kd nu sg fa pl wd td (pof pr)), (182, ia nw)]) rfl rfl rfl rfl rfl ((m_has (x := h) (k := q) (by omega) (by omega)).up (by omega)) rfl ?_
      refine bcF_eq rfl (b01_t c) ?_
      refine rt_il2 rfl l4 ?_
      exact ow_irt rfl rfl rfl
    | false =>
      rw [show hrM Y q (r + 1) n h = hrM Y q r (n + 1) (nxL Y h 7 0 h) from if_neg (by rw [c]; decide)]
      refine rt_il2 rfl l4 ?_
      refine rt_bip rfl k8_7 ?_
      refine biF_ge rfl (n_nle (by omega) (by decide)) ?_
      refine rt_ild rfl l3 ?_
      refine rt_ild rfl l2 ?_
      refine ow_is1 (l2 := [(180, mcl (Int32.ofNat 0) p2 sz lim a fr kd nu sg fa pl wd td (pof pr)), (182, ia nw)]) rfl rfl rfl rfl rfl ((m_has (x := h) (k := q) (by omega) (by omega)).up (by omega)) rfl ?_
      refine bcT_eq rfl (b01_f c) ?_
      refine rt_ild rfl l3 ?_
      refine rt_is2 rfl (by decide +kernel) ?_
      refine rt_ico rfl ki_0 ?_
      refine rt_is2 rfl (by decide +kernel) ?_
      refine m_nx_he hlen hY hh 7 0 h _ (by omega) hh (gs_o rfl (gs_o rfl l0 rfl) rfl) (gs_o rfl (gs_o rfl l2 rfl) rfl) (gs_o rfl (gs_o rfl l3 rfl) rfl) (gs_o rfl (gs_o rfl l4 rfl) rfl) (gs_o rfl gs_n rfl) gs_n (fun L2 k0 k2 k3 k4 k5 => ?_)
      refine rt_il2 rfl k5 ?_
      refine rt_ist rfl (by decide +kernel) ?_
      refine rt_inc rfl (gs_o rfl k4 rfl) (by decide +kernel) ?_
      rw [in_1]
      refine RT_step (pc2 := 30) rfl (fun _ _ => rfl) ?_
      exact ih (n + 1) _ _ (by omega) (nx_lt (m := 7) (fun k hk => (hY k (by omega)).2) hh) (gs_o rfl (gs_o rfl k0 rfl) rfl) (gs_o rfl (gs_o rfl k2 rfl) rfl) (gs_o rfl gs_n rfl) gs_n
theorem m_he_a {H : List AE} (hlen : Nat.ble 204 H.length = true) {p0 p2 nu sg fa pl td : Int32} {sz lim a fr kd : Nat} {wd : Int64} {pr : List Value} {nw : List Int32} {Y : Nat → Nat} {P : Nat} (h0 : H[180]? = some (mcl p0 p2 sz lim a fr kd nu sg fa pl wd td (pof pr))) (h1 : H[182]? = some (ia nw)) (hv : nw[0]? = some (Int32.ofNat P)) (hY : ∀ q, q < 7 → nw[45 + q]? = some (Int32.ofNat (Y q)) ∧ Y q < 128) (hP : P ≤ 7) {z w : Int32} (h : z < Int32.ofNat 0 ∨ Int32.ofNat P ≤ z) : FR 4 210 [.ref 180, .int z, .int w] H (some (.int (-1 : Int32)), ov H [(180, mcl (Int32.ofNat 0) p2 sz lim a fr kd nu sg fa pl wd td (pof pr))]) := by
  refine FR_ov (l := [(180, mcl p0 p2 sz lim a fr kd nu sg fa pl wd td (pof pr)), (182, ia nw)]) (l2 := [(180, mcl (Int32.ofNat 0) p2 sz lim a fr kd nu sg fa pl wd td (pof pr)), (182, ia nw)]) (ov_id h0 (ov_c1 h1)) rfl (ov_2 h1) ?_
  refine RT_step (pc2 := 1) rfl (fun _ _ => rfl) ?_
  refine rt_ico rfl ki_0 ?_
  refine ow_pf rfl rfl rfl rfl rfl hlen rfl rfl ?_
  refine RT_step (pc2 := 6) rfl (fun _ _ => rfl) ?_
  refine RT_step (pc2 := 7) rfl (fun _ _ => rfl) ?_
  refine ow_iv1 (l2 := [(180, mcl (Int32.ofNat 0) p2 sz lim a fr kd nu sg fa pl wd td (pof pr)), (182, ia nw)]) rfl rfl rfl rfl hlen rfl rfl rfl ((m_isP_0 (ov_hl hlen) (ov_at rfl (ov_lt hlen (by decide))) (ov_at rfl (ov_lt hlen (by decide))) hv (by omega) h).up (by decide)) rfl ?_
  refine bcT_eq rfl rfl ?_
  refine rt_ico rfl ki_m1 ?_
  exact ow_irt rfl rfl rfl
theorem m_he_b {H : List AE} (hlen : Nat.ble 204 H.length = true) {p0 p2 nu sg fa pl td : Int32} {sz lim a fr kd : Nat} {wd : Int64} {pr : List Value} {nw : List Int32} {Y : Nat → Nat} {P : Nat} (h0 : H[180]? = some (mcl p0 p2 sz lim a fr kd nu sg fa pl wd td (pof pr))) (h1 : H[182]? = some (ia nw)) (hv : nw[0]? = some (Int32.ofNat P)) (hY : ∀ q, q < 7 → nw[45 + q]? = some (Int32.ofNat (Y q)) ∧ Y q < 128) (hP : P ≤ 7) {p : Nat} {w : Int32} (hp : p < P) (h : w < Int32.ofNat 0 ∨ Int32.ofNat P ≤ w) : FR 4 210 [.ref 180, .int (Int32.ofNat p), .int w] H (some (.int (-1 : Int32)), ov H [(180, mcl (Int32.ofNat 0) p2 sz lim a fr kd nu sg fa pl wd td (pof pr))]) := by
  refine FR_ov (l := [(180, mcl p0 p2 sz lim a fr kd nu sg fa pl wd td (pof pr)), (182, ia nw)]) (l2 := [(180, mcl (Int32.ofNat 0) p2 sz lim a fr kd nu sg fa pl wd td (pof pr)), (182, ia nw)]) (ov_id h0 (ov_c1 h1)) rfl (ov_2 h1) ?_
  refine RT_step (pc2 := 1) rfl (fun _ _ => rfl) ?_
  refine rt_ico rfl ki_0 ?_
  refine ow_pf rfl rfl rfl rfl rfl hlen rfl rfl ?_
  refine RT_step (pc2 := 6) rfl (fun _ _ => rfl) ?_
  refine RT_step (pc2 := 7) rfl (fun _ _ => rfl) ?_
  refine ow_iv1 (l2 := [(180, mcl (Int32.ofNat 0) p2 sz lim a fr kd nu sg fa pl wd td (pof pr)), (182, ia nw)]) rfl rfl rfl rfl hlen rfl rfl rfl ((m_isP_1 (ov_hl hlen) (ov_at rfl (ov_lt hlen (by decide))) (ov_at rfl (ov_lt hlen (by decide))) hv (by omega) hp).up (by decide)) rfl ?_
  refine bcF_eq rfl (by decide) ?_
  refine RT_step (pc2 := 14) rfl (fun _ _ => rfl) ?_
  refine RT_step (pc2 := 15) rfl (fun _ _ => rfl) ?_
  refine ow_iv1 (l2 := [(180, mcl (Int32.ofNat 0) p2 sz lim a fr kd nu sg fa pl wd td (pof pr)), (182, ia nw)]) rfl rfl rfl rfl hlen rfl rfl rfl ((m_isP_0 (ov_hl hlen) (ov_at rfl (ov_lt hlen (by decide))) (ov_at rfl (ov_lt hlen (by decide))) hv (by omega) h).up (by decide)) rfl ?_
  refine bcT_ne rfl rfl ?_
  refine rt_ico rfl ki_m1 ?_
  exact ow_irt rfl rfl rfl
theorem m_he_c {H : List AE} (hlen : Nat.ble 204 H.length = true) {p0 p2 nu sg fa pl td : Int32} {sz lim a fr kd : Nat} {wd : Int64} {pr : List Value} {nw : List Int32} {Y : Nat → Nat} {P : Nat} (h0 : H[180]? = some (mcl p0 p2 sz lim a fr kd nu sg fa pl wd td (pof pr))) (h1 : H[182]? = some (ia nw)) (hv : nw[0]? = some (Int32.ofNat P)) (hY : ∀ q, q < 7 → nw[45 + q]? = some (Int32.ofNat (Y q)) ∧ Y q < 128) (hP : P ≤ 7) {p q : Nat} (hp : p < P) (hq : q < P) : FR 4 210 [.ref 180, .int (Int32.ofNat p), .int (Int32.ofNat q)] H (some (.int (hrM Y q 7 0 (2 ^ p))), ov H [(180, mcl (Int32.ofNat 0) p2 sz lim a fr kd nu sg fa pl wd td (pof pr))]) := by
  have h7 : 2 ^ p < 128 := Nat.pow_lt_pow_right (a := 2) (n := 7) (by decide) (by omega)
  refine FR_ov (l := [(180, mcl p0 p2 sz lim a fr kd nu sg fa pl wd td (pof pr)), (182, ia nw)]) (l2 := [(180, mcl (Int32.ofNat 0) p2 sz lim a fr kd nu sg fa pl wd td (pof pr)), (182, ia nw)]) (ov_id h0 (ov_c1 h1)) rfl (ov_2 h1) ?_
  refine RT_step (pc2 := 1) rfl (fun _ _ => rfl) ?_
  refine rt_ico rfl ki_0 ?_
  refine ow_pf rfl rfl rfl rfl rfl hlen rfl rfl ?_
  refine RT_step (pc2 := 6) rfl (fun _ _ => rfl) ?_
  refine RT_step (pc2 := 7) rfl (fun _ _ => rfl) ?_
  refine ow_iv1 (l2 := [(180, mcl (Int32.ofNat 0) p2 sz lim a fr kd nu sg fa pl wd td (pof pr)), (182, ia nw)]) rfl rfl rfl rfl hlen rfl rfl rfl ((m_isP_1 (ov_hl hlen) (ov_at rfl (ov_lt hlen (by decide))) (ov_at rfl (ov_lt hlen (by decide))) hv (by omega) hp).up (by decide)) rfl ?_
  refine bcF_eq rfl (by decide) ?_
  refine RT_step (pc2 := 14) rfl (fun _ _ => rfl) ?_
  refine RT_step (pc2 := 15) rfl (fun _ _ => rfl) ?_
  refine ow_iv1 (l2 := [(180, mcl (Int32.ofNat 0) p2 sz lim a fr kd nu sg fa pl wd td (pof pr)), (182, ia nw)]) rfl rfl rfl rfl hlen rfl rfl rfl ((m_isP_1 (ov_hl hlen) (ov_at rfl (ov_lt hlen (by decide))) (ov_at rfl (ov_lt hlen (by decide))) hv (by omega) hq).up (by decide)) rfl ?_
  refine bcF_ne rfl (by decide) ?_
  refine rt_ico rfl ki_1 ?_
  refine RT_step (pc2 := 25) rfl (fun _ _ => rfl) ?_
  refine ba_ishl rfl ?_
  rw [sh_n p (by omega)]
  refine RT_step (pc2 := 27) rfl (fun _ _ => rfl) ?_
  refine rt_ico rfl ki_0 ?_
  refine RT_step (pc2 := 30) rfl (fun _ _ => rfl) ?_
  exact m_heL (dd := 2) hlen hY (by omega) 7 0 _ _ (by omega) h7 rfl rfl rfl rfl
theorem he_eq {hp hc hd : List AE} {r r2 z1 z2 : Int32} {k1 k2 : Nat} (G : hp_ok GG hp) (hlen : Nat.ble 204 hp.length = true) (C : CUR hp) (hz : ∃ z : Int32, hq hp 1 1 = some (.int z) ∧ hq hp 180 2 = some (.int z)) (f1 : FR k1 24 [.ref 0, .int z1, .int z2] hp (some (.int r), hc)) (f2 : FR k2 210 [.ref 180, .int z1, .int z2] hc (some (.int r2), hd)) : r2 = r := by
  obtain ⟨d, s, se, ss, lt, fb, tq, gb, e0, hd0, hs0, hse0, hss0⟩ := oc_0 G
  obtain ⟨n, lim, a, kd, pl, w, le, nu, tk, fa, fp, e1, hn, hw⟩ := oc_1 G
  obtain ⟨p0, n2, sz, lim2, am, fr, kd2, nu2, sg, fa2, pl2, wd, td, sm, pr, e180, hn2⟩ := oc_180 G
  obtain rfl : n = n2 := by
    obtain ⟨z, z1, z2⟩ := hz
    rw [hq_obj e1] at z1
    rw [hq_obj e180] at z2
    have y1 : some (Value.int (Int32.ofNat n)) = some (.int z) := z1
    have y2 : some (Value.int (Int32.ofNat n2)) = some (.int z) := z2
    have e := congrArg Int32.toInt (Value.int.inj (Option.some.inj (y1.trans y2.symm)))
    rw [n_int (by omega), n_int (by omega)] at e
    omega
  obtain ⟨nw, -, kw, e182⟩ := ai_of (hp := hp) (a := 182) (t := 1) (n := 396) (G.1 182 gc182 rfl).1
  rcases C with ⟨h0d, -, hD⟩ | ⟨h0d, -, hD⟩
  · rw [hq_obj e0] at h0d
    have h0d : some (Value.ref d) = some (.ref 3) := h0d
    obtain rfl := Value.ref.inj (Option.some.inj h0d)
    obtain ⟨P, Dn, lw, cl, id, gl, bo, pn, ri, lf, wa, fo, dn, ha, pa, bl, rd, rn, g0, -, -, -, g4, -, -, -, -, -, y1, y2, df, y4, y5⟩ := hD
    have nr : ∀ j, j < 101 → nw[j]? = rd[j]? := fun j hj => map_i (by rw [← y4 j hj, Nat.zero_add, hq_int e182])
    obtain ⟨hP, hDn, hl, hN, ⟨v0, v1, v19, v19b, v44, v44b, vp, vd, vf⟩, ⟨X, Y, hw1, hw2⟩, -, -, -⟩ := df
    have hv := (nr 0 (by decide)).trans v0
    have hX : ∀ q, q < 7 → wa[q]? = some (Int32.ofNat (X q)) ∧ X q < 128 := fun q hq => ⟨(hw1 q hq).1, (hw1 q hq).2.1⟩
    have hY : ∀ q, q < 7 → nw[45 + q]? = some (Int32.ofNat (Y q)) ∧ Y q < 128 := fun q hq => ⟨(nr _ (by omega)).trans (hw1 q hq).2.2.1, p7_lt (hw1 q hq).2.2.2 hP⟩
    rcases i32_two (z := z1) (P := P) (by omega) with ⟨p, hp1, rfl⟩ | c
    · rcases i32_two (z := z2) (P := P) (by omega) with ⟨q, hq1, rfl⟩ | c
      · obtain ⟨q3, q4⟩ := vi_inj (FR.det f1 (x_he3_c hlen e0 g0 g4 hX hP hp1 hq1))
        have q4 : hc = hp := q4
        subst q4
        obtain ⟨q5, -⟩ := vi_inj (FR.det f2 (m_he_c hlen e180 e182 hv hY hP hp1 hq1))
        exact q5.trans ((hr_eq hP (fun q hq => (hw1 q hq).2.2.2) hw2 7 0 _ (Nat.pow_lt_pow_right (by decide) hp1)).trans q3.symm)
      · obtain ⟨q3, q4⟩ := vi_inj (FR.det f1 (x_he3_b hlen e0 g0 g4 hX hP hp1 c))
        have q4 : hc = hp := q4
        subst q4
        obtain ⟨q5, -⟩ := vi_inj (FR.det f2 (m_he_b hlen e180 e182 hv hY hP hp1 c))
        exact q5.trans q3.symm
    · obtain ⟨q3, q4⟩ := vi_inj (FR.det f1 (x_he3_a hlen e0 g0 g4 hX hP c))
      have q4 : hc = hp := q4
      subst q4
      obtain ⟨q5, -⟩ := vi_inj (FR.det f2 (m_he_a hlen e180 e182 hv hY hP c))
      exact q5.trans q3.symm
  · rw [hq_obj e0] at h0d
    have h0d : some (Value.ref d) = some (.ref 13) := h0d
    obtain rfl := Value.ref.inj (Option.some.inj h0d)
    obtain ⟨P, Dn, lw, cl, id, gl, bo, pn, ri, lf, wa, fo, dn, ha, pa, bl, rd, rn, g0, -, -, -, g4, -, -, -, -, -, y1, y2, df, y4, y5⟩ := hD
    have nr : ∀ j, j < 101 → nw[j]? = rd[j]? := fun j hj => map_i (by rw [← y4 j hj, Nat.zero_add, hq_int e182])
    obtain ⟨hP, hDn, hl, hN, ⟨v0, v1, v19, v19b, v44, v44b, vp, vd, vf⟩, ⟨X, Y, hw1, hw2⟩, -, -, -⟩ := df
    have hv := (nr 0 (by decide)).trans v0
    have hX : ∀ q, q < 7 → wa[q]? = some (Int32.ofNat (X q)) ∧ X q < 128 := fun q hq => ⟨(hw1 q hq).1, (hw1 q hq).2.1⟩
    have hY : ∀ q, q < 7 → nw[45 + q]? = some (Int32.ofNat (Y q)) ∧ Y q < 128 := fun q hq => ⟨(nr _ (by omega)).trans (hw1 q hq).2.2.1, p7_lt (hw1 q hq).2.2.2 hP⟩
    rcases i32_two (z := z1) (P := P) (by omega) with ⟨p, hp1, rfl⟩ | c
    · rcases i32_two (z := z2) (P := P) (by omega) with ⟨q, hq1, rfl⟩ | c
      · obtain ⟨q3, q4⟩ := vi_inj (FR.det f1 (x_he13_c hlen e0 g0 g4 hX hP hp1 hq1))
        have q4 : hc = hp := q4
        subst q4
        obtain ⟨q5, -⟩ := vi_inj (FR.det f2 (m_he_c hlen e180 e182 hv hY hP hp1 hq1))
        exact q5.trans ((hr_eq hP (fun q hq => (hw1 q hq).2.2.2) hw2 7 0 _ (Nat.pow_lt_pow_right (by decide) hp1)).trans q3.symm)
      · obtain ⟨q3, q4⟩ := vi_inj (FR.det f1 (x_he13_b hlen e0 g0 g4 hX hP hp1 c))
        have q4 : hc = hp := q4
        subst q4
        obtain ⟨q5, -⟩ := vi_inj (FR.det f2 (m_he_b hlen e180 e182 hv hY hP hp1 c))
        exact q5.trans q3.symm
    · obtain ⟨q3, q4⟩ := vi_inj (FR.det f1 (x_he13_a hlen e0 g0 g4 hX hP c))
      have q4 : hc = hp := q4
      subst q4
      obtain ⟨q5, -⟩ := vi_inj (FR.det f2 (m_he_a hlen e180 e182 hv hY hP c))
      exact q5.trans q3.symm
