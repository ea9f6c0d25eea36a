/-! ===== signs ===== -/
def isBl (c : Nat) : Bool := Nat.beq c 32 || Nat.beq c 10
def isLt (c : Nat) : Bool := Nat.ble 97 c && Nat.ble c 122
def isDg (c : Nat) : Bool := Nat.ble 48 c && Nat.ble c 57
def isMk (c : Nat) : Bool := Nat.beq c 59 || Nat.beq c 60 || Nat.beq c 61 || Nat.beq c 62 || Nat.beq c 40 || Nat.beq c 41
def BY (bs : List Int32) (B : Nat → Nat) : Prop := ∀ i, i < 940 → ∃ v, bs[i]? = some v ∧ v &&& Int32.ofNat 255 = Int32.ofNat (B i) ∧ B i < 256
def skp (B : Nat → Nat) : Nat → Nat → Nat
  | 0, i => i
  | r + 1, i => cond (isBl (B i)) (skp B r (i + 1)) i
theorem skp_le (B : Nat → Nat) : ∀ r i, i ≤ skp B r i ∧ skp B r i ≤ i + r
  | 0, i => ⟨Nat.le_refl _, Nat.le_refl _⟩
  | r + 1, i => by
    show i ≤ cond (isBl (B i)) (skp B r (i + 1)) i ∧ cond (isBl (B i)) (skp B r (i + 1)) i ≤ i + (r + 1)
    have h := skp_le B r (i + 1)
    cases isBl (B i) with
    | true => exact ⟨by simp only [cond_true]; omega, by simp only [cond_true]; omega⟩
    | false => exact ⟨Nat.le_refl _, by simp only [cond_false]; omega⟩
def tcl (n lim a kd pl w : Nat) (le : Int64) (nu tk fa fp : Int32) : AE := .inr (9, [.ref 2, .int (Int32.ofNat n), .int (Int32.ofNat lim), .int (Int32.ofNat a), .int (Int32.ofNat kd), .int (Int32.ofNat pl), .retAddr w, .long le, .int nu, .int tk, .int fa, .int fp])
def bcl (bs : List Int32) : AE := .inl (0, .inl bs)
theorem k16_255 : (Int16.ofInt 255).toInt32 = Int32.ofNat 255 := by decide +kernel
theorem k16_940 : (Int16.ofInt 940).toInt32 = Int32.ofNat 940 := by decide +kernel
theorem k8_10 : (Int8.ofInt 10).toInt32 = Int32.ofNat 10 := by decide +kernel
theorem k8_122 : (Int8.ofInt 122).toInt32 = Int32.ofNat 122 := by decide +kernel
theorem k8_32 : (Int8.ofInt 32).toInt32 = Int32.ofNat 32 := by decide +kernel
theorem k8_40 : (Int8.ofInt 40).toInt32 = Int32.ofNat 40 := by decide +kernel
theorem k8_41 : (Int8.ofInt 41).toInt32 = Int32.ofNat 41 := by decide +kernel
theorem k8_48 : (Int8.ofInt 48).toInt32 = Int32.ofNat 48 := by decide +kernel
theorem k8_57 : (Int8.ofInt 57).toInt32 = Int32.ofNat 57 := by decide +kernel
theorem k8_59 : (Int8.ofInt 59).toInt32 = Int32.ofNat 59 := by decide +kernel
theorem k8_60 : (Int8.ofInt 60).toInt32 = Int32.ofNat 60 := by decide +kernel
theorem k8_61 : (Int8.ofInt 61).toInt32 = Int32.ofNat 61 := by decide +kernel
theorem k8_62 : (Int8.ofInt 62).toInt32 = Int32.ofNat 62 := by decide +kernel
theorem k8_97 : (Int8.ofInt 97).toInt32 = Int32.ofNat 97 := by decide +kernel
theorem ki_0 : Int32.ofInt 0 = Int32.ofNat 0 := by decide +kernel
theorem ki_1 : Int32.ofInt 1 = Int32.ofNat 1 := by decide +kernel
theorem x_isBlank {H : List AE} {c : Nat} (hc : c < 256) : FR 1 156 [.int (Int32.ofNat c)] H (some (.int (b01 (isBl c))), ov H []) := by
  refine FR_of rfl ?_
  by_cases h1 : c = 32
  · rw [show isBl c = true from by simp [isBl, nbqf, *]]
    refine RT_step (pc2 := 1) rfl (fun _ _ => rfl) ?_
    refine rt_bip rfl k8_32 ?_
    refine RT_step rfl (fun _ _ => rfl) ?_
    refine RT_if (n_eq h1) ?_
    refine rt_ico rfl ki_1 ?_
    refine RT_step (pc2 := 17) rfl (fun _ _ => rfl) ?_
    exact ow_irt rfl rfl rfl
  · by_cases h2 : c = 10
    · rw [show isBl c = true from by simp [isBl, nbqf, *]]
      refine RT_step (pc2 := 1) rfl (fun _ _ => rfl) ?_
      refine rt_bip rfl k8_32 ?_
      refine RT_step rfl (fun _ _ => rfl) ?_
      refine RT_el (n_ne h1 (by omega) (by decide)) ?_
      refine RT_step (pc2 := 7) rfl (fun _ _ => rfl) ?_
      refine rt_bip rfl k8_10 ?_
      refine RT_step rfl (fun _ _ => rfl) ?_
      refine RT_if (n_eq h2) ?_
      refine rt_ico rfl ki_1 ?_
      refine RT_step (pc2 := 17) rfl (fun _ _ => rfl) ?_
      exact ow_irt rfl rfl rfl
    · rw [show isBl c = false from by simp [isBl, nbqf, *]]
      refine RT_step (pc2 := 1) rfl (fun _ _ => rfl) ?_
      refine rt_bip rfl k8_32 ?_
      refine RT_step rfl (fun _ _ => rfl) ?_
      refine RT_el (n_ne h1 (by omega) (by decide)) ?_
      refine RT_step (pc2 := 7) rfl (fun _ _ => rfl) ?_
      refine rt_bip rfl k8_10 ?_
      refine RT_step rfl (fun _ _ => rfl) ?_
      refine RT_el (n_ne h2 (by omega) (by decide)) ?_
      refine rt_ico rfl ki_0 ?_
      exact ow_irt rfl rfl rfl
theorem ble_f {a b : Nat} (h : b < a) : Nat.ble a b = false := by
  cases e : Nat.ble a b with
  | false => rfl
  | true => have := Nat.le_of_ble_eq_true e; omega
theorem x_isLetter {H : List AE} {c : Nat} (hc : c < 256) : FR 1 158 [.int (Int32.ofNat c)] H (some (.int (b01 (isLt c))), ov H []) := by
  refine FR_of rfl ?_
  by_cases h1 : c < 97
  · rw [show isLt c = false from by unfold isLt; rw [show Nat.ble 97 c = false from ble_f h1]; rfl]
    refine RT_step (pc2 := 1) rfl (fun _ _ => rfl) ?_
    refine rt_bip rfl k8_97 ?_
    refine RT_step rfl (fun _ _ => rfl) ?_
    refine RT_if (n_lt h1 (by decide)) ?_
    refine rt_ico rfl ki_0 ?_
    exact ow_irt rfl rfl rfl
  · by_cases h2 : 122 < c
    · rw [show isLt c = false from by unfold isLt; rw [show Nat.ble c 122 = false from ble_f h2, Bool.and_false]]
      refine RT_step (pc2 := 1) rfl (fun _ _ => rfl) ?_
      refine rt_bip rfl k8_97 ?_
      refine RT_step rfl (fun _ _ => rfl) ?_
      refine RT_el (n_nlt (by omega) (by omega)) ?_
      refine RT_step (pc2 := 7) rfl (fun _ _ => rfl) ?_
      refine rt_bip rfl k8_122 ?_
      refine RT_step rfl (fun _ _ => rfl) ?_
      refine RT_if (n_lt h2 (by omega)) ?_
      refine rt_ico rfl ki_0 ?_
      exact ow_irt rfl rfl rfl
    · rw [show isLt c = true from by unfold isLt; rw [Nat.ble_eq_true_of_le (show 97 ≤ c by omega), Nat.ble_eq_true_of_le (show c ≤ 122 by omega)]; rfl]
      refine RT_step (pc2 := 1) rfl (fun _ _ => rfl) ?_
      refine rt_bip rfl k8_97 ?_
      refine RT_step rfl (fun _ _ => rfl) ?_
      refine RT_el (n_nlt (by omega) (by omega)) ?_
      refine RT_step (pc2 := 7) rfl (fun _ _ => rfl) ?_
      refine rt_bip rfl k8_122 ?_
      refine RT_step rfl (fun _ _ => rfl) ?_
      refine RT_el (n_nlt (by omega) (by decide)) ?_
      refine rt_ico rfl ki_1 ?_
      refine RT_step (pc2 := 17) rfl (fun _ _ => rfl) ?_
      exact ow_irt rfl rfl rfl
theorem x_isDigit {H : List AE} {c : Nat} (hc : c < 256) : FR 1 157 [.int (Int32.ofNat c)] H (some (.int (b01 (isDg c))), ov H []) := by
  refine FR_of rfl ?_
  by_cases h1 : c < 48
  · rw [show isDg c = false from by unfold isDg; rw [show Nat.ble 48 c = false from ble_f h1]; rfl]
    refine RT_step (pc2 := 1) rfl (fun _ _ => rfl) ?_
    refine rt_bip rfl k8_48 ?_
    refine RT_step rfl (fun _ _ => rfl) ?_
    refine RT_if (n_lt h1 (by decide)) ?_
    refine rt_ico rfl ki_0 ?_
    exact ow_irt rfl rfl rfl
  · by_cases h2 : 57 < c
    · rw [show isDg c = false from by unfold isDg; rw [show Nat.ble c 57 = false from ble_f h2, Bool.and_false]]
      refine RT_step (pc2 := 1) rfl (fun _ _ => rfl) ?_
      refine rt_bip rfl k8_48 ?_
      refine RT_step rfl (fun _ _ => rfl) ?_
      refine RT_el (n_nlt (by omega) (by omega)) ?_
      refine RT_step (pc2 := 7) rfl (fun _ _ => rfl) ?_
      refine rt_bip rfl k8_57 ?_
      refine RT_step rfl (fun _ _ => rfl) ?_
      refine RT_if (n_lt h2 (by omega)) ?_
      refine rt_ico rfl ki_0 ?_
      exact ow_irt rfl rfl rfl
    · rw [show isDg c = true from by unfold isDg; rw [Nat.ble_eq_true_of_le (show 48 ≤ c by omega), Nat.ble_eq_true_of_le (show c ≤ 57 by omega)]; rfl]
      refine RT_step (pc2 := 1) rfl (fun _ _ => rfl) ?_
      refine rt_bip rfl k8_48 ?_
      refine RT_step rfl (fun _ _ => rfl) ?_
      refine RT_el (n_nlt (by omega) (by omega)) ?_
      refine RT_step (pc2 := 7) rfl (fun _ _ => rfl) ?_
      refine rt_bip rfl k8_57 ?_
      refine RT_step rfl (fun _ _ => rfl) ?_
      refine RT_el (n_nlt (by omega) (by decide)) ?_
      refine rt_ico rfl ki_1 ?_
      refine RT_step (pc2 := 17) rfl (fun _ _ => rfl) ?_
      exact ow_irt rfl rfl rfl
theorem x_isMark {H : List AE} {c : Nat} (hc : c < 256) : FR 1 159 [.int (Int32.ofNat c)] H (some (.int (b01 (isMk c))), ov H []) := by
  refine FR_of rfl ?_
  by_cases h0 : c = 59
  · rw [show isMk c = true from by simp [isMk, nbqf, *]]
    refine RT_step (pc2 := 1) rfl (fun _ _ => rfl) ?_
    refine rt_bip rfl k8_59 ?_
    refine RT_step rfl (fun _ _ => rfl) ?_
    refine RT_if (n_eq h0) ?_
    refine rt_ico rfl ki_1 ?_
    refine RT_step (pc2 := 41) rfl (fun _ _ => rfl) ?_
    exact ow_irt rfl rfl rfl
  · by_cases h1 : c = 60
    · rw [show isMk c = true from by simp [isMk, nbqf, *]]
      refine RT_step (pc2 := 1) rfl (fun _ _ => rfl) ?_
      refine rt_bip rfl k8_59 ?_
      refine RT_step rfl (fun _ _ => rfl) ?_
      refine RT_el (n_ne h0 (by omega) (by decide)) ?_
      refine RT_step (pc2 := 7) rfl (fun _ _ => rfl) ?_
      refine rt_bip rfl k8_60 ?_
      refine RT_step rfl (fun _ _ => rfl) ?_
      refine RT_if (n_eq h1) ?_
      refine rt_ico rfl ki_1 ?_
      refine RT_step (pc2 := 41) rfl (fun _ _ => rfl) ?_
      exact ow_irt rfl rfl rfl
    · by_cases h2 : c = 61
      · rw [show isMk c = true from by simp [isMk, nbqf, *]]
        refine RT_step (pc2 := 1) rfl (fun _ _ => rfl) ?_
        refine rt_bip rfl k8_59 ?_
        refine RT_step rfl (fun _ _ => rfl) ?_
        refine RT_el (n_ne h0 (by omega) (by decide)) ?_
        refine RT_step (pc2 := 7) rfl (fun _ _ => rfl) ?_
        refine rt_bip rfl k8_60 ?_
        refine RT_step rfl (fun _ _ => rfl) ?_
        refine RT_el (n_ne h1 (by omega) (by decide)) ?_
        refine RT_step (pc2 := 13) rfl (fun _ _ => rfl) ?_
        refine rt_bip rfl k8_61 ?_
        refine RT_step rfl (fun _ _ => rfl) ?_
        refine RT_if (n_eq h2) ?_
        refine rt_ico rfl ki_1 ?_
        refine RT_step (pc2 := 41) rfl (fun _ _ => rfl) ?_
        exact ow_irt rfl rfl rfl
      · by_cases h3 : c = 62
        · rw [show isMk c = true from by simp [isMk, nbqf, *]]
          refine RT_step (pc2 := 1) rfl (fun _ _ => rfl) ?_
          refine rt_bip rfl k8_59 ?_
          refine RT_step rfl (fun _ _ => rfl) ?_
          refine RT_el (n_ne h0 (by omega) (by decide)) ?_
          refine RT_step (pc2 := 7) rfl (fun _ _ => rfl) ?_
          refine rt_bip rfl k8_60 ?_
          refine RT_step rfl (fun _ _ => rfl) ?_
          refine RT_el (n_ne h1 (by omega) (by decide)) ?_
          refine RT_step (pc2 := 13) rfl (fun _ _ => rfl) ?_
          refine rt_bip rfl k8_61 ?_
          refine RT_step rfl (fun _ _ => rfl) ?_
          refine RT_el (n_ne h2 (by omega) (by decide)) ?_
          refine RT_step (pc2 := 19) rfl (fun _ _ => rfl) ?_
          refine rt_bip rfl k8_62 ?_
          refine RT_step rfl (fun _ _ => rfl) ?_
          refine RT_if (n_eq h3) ?_
          refine rt_ico rfl ki_1 ?_
          refine RT_step (pc2 := 41) rfl (fun _ _ => rfl) ?_
          exact ow_irt rfl rfl rfl
        · by_cases h4 : c = 40
          · rw [show isMk c = true from by simp [isMk, nbqf, *]]
            refine RT_step (pc2 := 1) rfl (fun _ _ => rfl) ?_
            refine rt_bip rfl k8_59 ?_
            refine RT_step rfl (fun _ _ => rfl) ?_
            refine RT_el (n_ne h0 (by omega) (by decide)) ?_
            refine RT_step (pc2 := 7) rfl (fun _ _ => rfl) ?_
            refine rt_bip rfl k8_60 ?_
            refine RT_step rfl (fun _ _ => rfl) ?_
            refine RT_el (n_ne h1 (by omega) (by decide)) ?_
            refine RT_step (pc2 := 13) rfl (fun _ _ => rfl) ?_
            refine rt_bip rfl k8_61 ?_
            refine RT_step rfl (fun _ _ => rfl) ?_
            refine RT_el (n_ne h2 (by omega) (by decide)) ?_
            refine RT_step (pc2 := 19) rfl (fun _ _ => rfl) ?_
            refine rt_bip rfl k8_62 ?_
            refine RT_step rfl (fun _ _ => rfl) ?_
            refine RT_el (n_ne h3 (by omega) (by decide)) ?_
            refine RT_step (pc2 := 25) rfl (fun _ _ => rfl) ?_
            refine rt_bip rfl k8_40 ?_
            refine RT_step rfl (fun _ _ => rfl) ?_
            refine RT_if (n_eq h4) ?_
            refine rt_ico rfl ki_1 ?_
            refine RT_step (pc2 := 41) rfl (fun _ _ => rfl) ?_
            exact ow_irt rfl rfl rfl
          · by_cases h5 : c = 41
            · rw [show isMk c = true from by simp [isMk, nbqf, *]]
              refine RT_step (pc2 := 1) rfl (fun _ _ => rfl) ?_
              refine rt_bip rfl k8_59 ?_
              refine RT_step rfl (fun _ _ => rfl) ?_
              refine RT_el (n_ne h0 (by omega) (by decide)) ?_
              refine RT_step (pc2 := 7) rfl (fun _ _ => rfl) ?_
              refine rt_bip rfl k8_60 ?_
              refine RT_step rfl (fun _ _ => rfl) ?_
              refine RT_el (n_ne h1 (by omega) (by decide)) ?_
              refine RT_step (pc2 := 13) rfl (fun _ _ => rfl) ?_
              refine rt_bip rfl k8_61 ?_
              refine RT_step rfl (fun _ _ => rfl) ?_
              refine RT_el (n_ne h2 (by omega) (by decide)) ?_
              refine RT_step (pc2 := 19) rfl (fun _ _ => rfl) ?_
              refine rt_bip rfl k8_62 ?_
              refine RT_step rfl (fun _ _ => rfl) ?_
              refine RT_el (n_ne h3 (by omega) (by decide)) ?_
              refine RT_step (pc2 := 25) rfl (fun _ _ => rfl) ?_
              refine rt_bip rfl k8_40 ?_
              refine RT_step rfl (fun _ _ => rfl) ?_
              refine RT_el (n_ne h4 (by omega) (by decide)) ?_
              refine RT_step (pc2 := 31) rfl (fun _ _ => rfl) ?_
              refine rt_bip rfl k8_41 ?_
              refine RT_step rfl (fun _ _ => rfl) ?_
              refine RT_if (n_eq h5) ?_
              refine rt_ico rfl ki_1 ?_
              refine RT_step (pc2 := 41) rfl (fun _ _ => rfl) ?_
              exact ow_irt rfl rfl rfl
            · rw [show isMk c = false from by simp [isMk, nbqf, *]]
              refine RT_step (pc2 := 1) rfl (fun _ _ => rfl) ?_
              refine rt_bip rfl k8_59 ?_
              refine RT_step rfl (fun _ _ => rfl) ?_
              refine RT_el (n_ne h0 (by omega) (by decide)) ?_
              refine RT_step (pc2 := 7) rfl (fun _ _ => rfl) ?_
              refine rt_bip rfl k8_60 ?_
              refine RT_step rfl (fun _ _ => rfl) ?_
              refine RT_el (n_ne h1 (by omega) (by decide)) ?_
              refine RT_step (pc2 := 13) rfl (fun _ _ => rfl) ?_
              refine rt_bip rfl k8_61 ?_
              refine RT_step rfl (fun _ _ => rfl) ?_
              refine RT_el (n_ne h2 (by omega) (by decide)) ?_
              refine RT_step (pc2 := 19) rfl (fun _ _ => rfl) ?_
              refine rt_bip rfl k8_62 ?_
              refine RT_step rfl (fun _ _ => rfl) ?_
              refine RT_el (n_ne h3 (by omega) (by decide)) ?_
              refine RT_step (pc2 := 25) rfl (fun _ _ => rfl) ?_
              refine rt_bip rfl k8_40 ?_
              refine RT_step rfl (fun _ _ => rfl) ?_
              refine RT_el (n_ne h4 (by omega) (by decide)) ?_
              refine RT_step (pc2 := 31) rfl (fun _ _ => rfl) ?_
              refine rt_bip rfl k8_41 ?_
              refine RT_step rfl (fun _ _ => rfl) ?_
              refine RT_el (n_ne h5 (by omega) (by decide)) ?_
              refine rt_ico rfl ki_0 ?_
              exact ow_irt rfl rfl rfl
theorem x_signAt {H : List AE} {bs : List Int32} {fs : List Value} {B : Nat → Nat} (h1 : H[1]? = some (.inr (9, .ref 2 :: fs))) (h2 : H[2]? = some (bcl bs)) (hB : BY bs B) (hlen : Nat.ble 204 H.length = true) {i : Nat} (hi : i < 940) : FR 1 166 [.ref 1, .int (Int32.ofNat i)] H (some (.int (Int32.ofNat (B i))), ov H []) := by
  obtain ⟨v, v1, v2, v3⟩ := hB i hi
  refine FR_ov (l := [(1, .inr (9, .ref 2 :: fs)), (2, bcl bs)]) (ov_id h1 (ov_c1 h2)) rfl (ov_id h1 (ov_c1 h2)) ?_
  refine RT_step (pc2 := 1) rfl (fun _ _ => rfl) ?_
  refine RT_step rfl (fun _ _ => rfl) ?_
  refine RT_el (n_ps (by omega)) ?_
  refine RT_step (pc2 := 5) rfl (fun _ _ => rfl) ?_
  refine rt_sip rfl k16_940 ?_
  refine RT_step rfl (fun _ _ => rfl) ?_
  refine RT_el (n_nle hi (by decide)) ?_
  refine RT_step (pc2 := 12) rfl (fun _ _ => rfl) ?_
  refine ow_gf rfl rfl rfl hlen rfl ?_
  refine RT_step (pc2 := 16) rfl (fun _ _ => rfl) ?_
  refine ow_bal rfl rfl (by decide) (rd_nat v1 (by omega)) hlen rfl ?_
  refine rt_sip rfl k16_255 ?_
  refine RT_step (pc2 := 21) rfl (fun _ _ => rfl) ?_
  refine RT_step (pc2 := 25) rfl (fun _ _ => rfl) ?_
  exact (ow_eq (ow_irt rfl rfl rfl) (by rw [v2]))
theorem ov_lt {H : List AE} (h : Nat.ble 204 H.length = true) {a : Nat} (ha : a < 204) : a < H.length := Nat.lt_of_lt_of_le ha (Nat.le_of_ble_eq_true h)
theorem ov_hl {H : List AE} {l : List (Nat × AE)} (h : Nat.ble 204 H.length = true) : Nat.ble 204 (ov H l).length = true := by rw [ov_len]; exact h
theorem x_skip {H : List AE} {bs : List Int32} {B : Nat → Nat} (hB : BY bs B) (hlen : Nat.ble 204 H.length = true) {n lim kd pl w : Nat} {le : Int64} {nu tk fa fp : Int32} (hn : n ≤ 940) {dd : Nat} (hd : 1 ≤ dd) {q : ev_R} : ∀ (r a : Nat), a + r = n → RT MM dd 155 55 [(0, .ref 1)] [] (ov H [(1, tcl n lim (skp B r a) kd pl w le nu tk fa fp), (2, bcl bs)]) q → RT MM dd 155 17 [(0, .ref 1)] [] (ov H [(1, tcl n lim a kd pl w le nu tk fa fp), (2, bcl bs)]) q := by
  intro r
  induction r with
  | zero =>
    intro a ha h
    have ha : a = n := by omega
    subst ha
    refine RT_step (pc2 := 18) rfl (fun _ _ => rfl) ?_
    refine ow_gf rfl rfl rfl hlen rfl ?_
    refine RT_step (pc2 := 22) rfl (fun _ _ => rfl) ?_
    refine ow_gf rfl rfl rfl hlen rfl ?_
    refine RT_step rfl (fun _ _ => rfl) ?_
    refine RT_if (n_le (Nat.le_refl _) (by omega)) ?_
    exact h
  | succ r ih =>
    intro a ha h
    have hb := (hB a (by omega)).choose_spec.2.2
    cases hc : isBl (B a) with
    | false =>
      rw [show skp B (r + 1) a = a from by show cond (isBl (B a)) _ a = a; rw [hc]; rfl] at h
      refine RT_step (pc2 := 18) rfl (fun _ _ => rfl) ?_
      refine ow_gf rfl rfl rfl hlen rfl ?_
      refine RT_step (pc2 := 22) rfl (fun _ _ => rfl) ?_
      refine ow_gf rfl rfl rfl hlen rfl ?_
      refine RT_step rfl (fun _ _ => rfl) ?_
      refine RT_el (n_nle (by omega) (by omega)) ?_
      refine RT_step (pc2 := 29) rfl (fun _ _ => rfl) ?_
      refine RT_step (pc2 := 30) rfl (fun _ _ => rfl) ?_
      refine ow_gf rfl rfl rfl hlen rfl ?_
      refine ow_iv rfl rfl rfl rfl hlen rfl rfl rfl ((x_signAt (fs := _) (ov_at rfl (ov_lt hlen (by decide))) (ov_at rfl (ov_lt hlen (by decide))) hB (ov_hl hlen) (show a < 940 by omega)).up hd) rfl ?_
      refine ow_is rfl rfl rfl rfl rfl ((x_isBlank hb).up hd) rfl ?_
      refine RT_step rfl (fun _ _ => rfl) ?_
      refine RT_if (b01_f hc) ?_
      exact h
    | true =>
      rw [show skp B (r + 1) a = skp B r (a + 1) from by show cond (isBl (B a)) _ a = _; rw [hc]; rfl] at h
      refine RT_step (pc2 := 18) rfl (fun _ _ => rfl) ?_
      refine ow_gf rfl rfl rfl hlen rfl ?_
      refine RT_step (pc2 := 22) rfl (fun _ _ => rfl) ?_
      refine ow_gf rfl rfl rfl hlen rfl ?_
      refine RT_step rfl (fun _ _ => rfl) ?_
      refine RT_el (n_nle (by omega) (by omega)) ?_
      refine RT_step (pc2 := 29) rfl (fun _ _ => rfl) ?_
      refine RT_step (pc2 := 30) rfl (fun _ _ => rfl) ?_
      refine ow_gf rfl rfl rfl hlen rfl ?_
      refine ow_iv rfl rfl rfl rfl hlen rfl rfl rfl ((x_signAt (fs := _) (ov_at rfl (ov_lt hlen (by decide))) (ov_at rfl (ov_lt hlen (by decide))) hB (ov_hl hlen) (show a < 940 by omega)).up hd) rfl ?_
      refine ow_is rfl rfl rfl rfl rfl ((x_isBlank hb).up hd) rfl ?_
      refine RT_step rfl (fun _ _ => rfl) ?_
      refine RT_el (b01_t hc) ?_
      refine RT_step (pc2 := 43) rfl (fun _ _ => rfl) ?_
      refine RT_step (pc2 := 44) rfl (fun _ _ => rfl) ?_
      refine ow_gf rfl rfl rfl hlen rfl ?_
      refine rt_ico rfl ki_1 ?_
      refine RT_step (pc2 := 49) rfl (fun _ _ => rfl) ?_
      rw [n_add]
      refine ow_pf rfl rfl rfl rfl rfl hlen rfl rfl ?_
      refine RT_step (pc2 := 17) rfl (fun _ _ => rfl) ?_
      exact ih (a + 1) (by omega) h
