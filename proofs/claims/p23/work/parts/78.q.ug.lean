/-! ===== a TOKEN, as the reference reads it ===== -/
def MY (ts : List Int32) (B : Nat → Nat) : Prop := ∀ i, i < 940 → ts[i]? = some (Int32.ofNat (B i)) ∧ B i < 256
def mcl (p0 p2 : Int32) (sz lim a fr kd : Nat) (nu sg fa pl : Int32) (wd : Int64) (td : Int32) (po : List Value) : AE := .inr (11, .int p0 :: .ref 181 :: .int p2 :: .int (Int32.ofNat sz) :: .int (Int32.ofNat lim) :: .int (Int32.ofNat a) :: .int (Int32.ofNat fr) :: .int (Int32.ofNat kd) :: .int nu :: .int sg :: .int fa :: .int pl :: .long wd :: .int td :: po)
def mtl (ts : List Int32) : AE := .inl (1, .inl ts)
def mw (wd : Int64) (c : Nat) : Int64 := Int64.ofNat 27 * wd + (Int32.ofNat c).toInt64 - Int64.ofNat 96
def mn (nu : Int32) (c : Nat) : Int32 := Int32.ofNat 10 * nu + Int32.ofNat c - Int32.ofNat 48
/-- the run from a on (it began at fr): where it ends, whether all signs are of one kind, word, number -/
def mrun (B : Nat → Nat) (lt : Bool) (fr : Nat) : Nat → Nat → Bool → Int64 → Int32 → Nat × Bool × Int64 × Int32
  | 0, a, g, wd, nu => (a, g, wd, nu)
  | r + 1, a, g, wd, nu => cond (isLt (B a) || isDg (B a)) (mrun B lt fr r (a + 1) (g && (isLt (B a) == lt)) (if a - fr < 7 then mw wd (B a) else wd) (if a - fr < 3 then mn nu (B a) else nu)) (a, g, wd, nu)
theorem m_isLetter {H : List AE} {c : Nat} (hc : c < 256) : FR 1 220 [.int (Int32.ofNat c)] H (some (.int (b01 (isLt c))), ov H []) := by
  refine FR_of rfl ?_
  by_cases h1 : c < 97
  · rw [show isLt c = false from by unfold isLt; rw [show Nat.ble 97 c = false from ble_f h1]; rfl]
    refine RT_step (pc2 := 1) rfl (fun _ _ => rfl) ?_
    refine rt_bip rfl k8_97 ?_
    refine RT_step rfl (fun _ _ => rfl) ?_
    refine RT_if (n_lt h1 (by decide)) ?_
    refine rt_ico rfl ki_0 ?_
    exact ow_irt rfl rfl rfl
  · by_cases h2 : 122 < c
    · rw [show isLt c = false from by unfold isLt; rw [show Nat.ble c 122 = false from ble_f h2, Bool.and_false]]
      refine RT_step (pc2 := 1) rfl (fun _ _ => rfl) ?_
      refine rt_bip rfl k8_97 ?_
      refine RT_step rfl (fun _ _ => rfl) ?_
      refine RT_el (n_nlt (by omega) (by omega)) ?_
      refine RT_step (pc2 := 7) rfl (fun _ _ => rfl) ?_
      refine rt_bip rfl k8_122 ?_
      refine RT_step rfl (fun _ _ => rfl) ?_
      refine RT_if (n_lt h2 (by omega)) ?_
      refine rt_ico rfl ki_0 ?_
      exact ow_irt rfl rfl rfl
    · rw [show isLt c = true from by unfold isLt; rw [Nat.ble_eq_true_of_le (show 97 ≤ c by omega), Nat.ble_eq_true_of_le (show c ≤ 122 by omega)]; rfl]
      refine RT_step (pc2 := 1) rfl (fun _ _ => rfl) ?_
      refine rt_bip rfl k8_97 ?_
      refine RT_step rfl (fun _ _ => rfl) ?_
      refine RT_el (n_nlt (by omega) (by omega)) ?_
      refine RT_step (pc2 := 7) rfl (fun _ _ => rfl) ?_
      refine rt_bip rfl k8_122 ?_
      refine RT_step rfl (fun _ _ => rfl) ?_
      refine RT_el (n_nlt (by omega) (by decide)) ?_
      refine rt_ico rfl ki_1 ?_
      refine RT_step (pc2 := 17) rfl (fun _ _ => rfl) ?_
      exact ow_irt rfl rfl rfl
theorem m_isDigit {H : List AE} {c : Nat} (hc : c < 256) : FR 1 215 [.int (Int32.ofNat c)] H (some (.int (b01 (isDg c))), ov H []) := by
  refine FR_of rfl ?_
  by_cases h1 : c < 48
  · rw [show isDg c = false from by unfold isDg; rw [show Nat.ble 48 c = false from ble_f h1]; rfl]
    refine RT_step (pc2 := 1) rfl (fun _ _ => rfl) ?_
    refine rt_bip rfl k8_48 ?_
    refine RT_step rfl (fun _ _ => rfl) ?_
    refine RT_if (n_lt h1 (by decide)) ?_
    refine rt_ico rfl ki_0 ?_
    exact ow_irt rfl rfl rfl
  · by_cases h2 : 57 < c
    · rw [show isDg c = false from by unfold isDg; rw [show Nat.ble c 57 = false from ble_f h2, Bool.and_false]]
      refine RT_step (pc2 := 1) rfl (fun _ _ => rfl) ?_
      refine rt_bip rfl k8_48 ?_
      refine RT_step rfl (fun _ _ => rfl) ?_
      refine RT_el (n_nlt (by omega) (by omega)) ?_
      refine RT_step (pc2 := 7) rfl (fun _ _ => rfl) ?_
      refine rt_bip rfl k8_57 ?_
      refine RT_step rfl (fun _ _ => rfl) ?_
      refine RT_if (n_lt h2 (by omega)) ?_
      refine rt_ico rfl ki_0 ?_
      exact ow_irt rfl rfl rfl
    · rw [show isDg c = true from by unfold isDg; rw [Nat.ble_eq_true_of_le (show 48 ≤ c by omega), Nat.ble_eq_true_of_le (show c ≤ 57 by omega)]; rfl]
      refine RT_step (pc2 := 1) rfl (fun _ _ => rfl) ?_
      refine rt_bip rfl k8_48 ?_
      refine RT_step rfl (fun _ _ => rfl) ?_
      refine RT_el (n_nlt (by omega) (by omega)) ?_
      refine RT_step (pc2 := 7) rfl (fun _ _ => rfl) ?_
      refine rt_bip rfl k8_57 ?_
      refine RT_step rfl (fun _ _ => rfl) ?_
      refine RT_el (n_nlt (by omega) (by decide)) ?_
      refine rt_ico rfl ki_1 ?_
      refine RT_step (pc2 := 17) rfl (fun _ _ => rfl) ?_
      exact ow_irt rfl rfl rfl
theorem m_rd {ts : List Int32} {B : Nat → Nat} (hM : MY ts B) {i : Nat} (hi : i < 940) : ev_rd ts (Int32.ofNat i) = some (Int32.ofNat (B i)) := rd_nat (hM i hi).1 (by omega)
theorem m_tapeAt {H : List AE} {ts : List Int32} {B : Nat → Nat} (hM : MY ts B) (hlen : Nat.ble 204 H.length = true) {p0 p2 nu sg fa pl td : Int32} {sz lim fr kd : Nat} {wd : Int64} {po : List Value} {a : Nat} (h1 : H[180]? = some (mcl p0 p2 sz lim a fr kd nu sg fa pl wd td po)) (h2 : H[181]? = some (mtl ts)) (hs : sz ≤ 940) {i : Nat} (hi : i < sz) : FR 1 285 [.ref 180, .int (Int32.ofNat i)] H (some (.int (Int32.ofNat (B i))), ov H []) := by
  refine FR_ov (l := [(180, mcl p0 p2 sz lim a fr kd nu sg fa pl wd td po), (181, mtl ts)]) (ov_id h1 (ov_c1 h2)) rfl (ov_id h1 (ov_c1 h2)) ?_
  refine RT_step (pc2 := 1) rfl (fun _ _ => rfl) ?_
  refine RT_step (pc2 := 2) rfl (fun _ _ => rfl) ?_
  refine ow_gf rfl rfl rfl hlen rfl ?_
  refine RT_step rfl (fun _ _ => rfl) ?_
  refine RT_el (n_nle hi (by omega)) ?_
  refine RT_step (pc2 := 9) rfl (fun _ _ => rfl) ?_
  refine ow_gf rfl rfl rfl hlen rfl ?_
  refine RT_step (pc2 := 13) rfl (fun _ _ => rfl) ?_
  refine ow_ial rfl rfl (m_rd hM (by omega)) hlen rfl ?_
  refine RT_step (pc2 := 18) rfl (fun _ _ => rfl) ?_
  exact ow_irt rfl rfl rfl
theorem m_tapeEnd {H : List AE} (hlen : Nat.ble 204 H.length = true) {p0 p2 nu sg fa pl td : Int32} {sz lim fr kd : Nat} {wd : Int64} {po : List Value} {a : Nat} (h1 : H[180]? = some (mcl p0 p2 sz lim a fr kd nu sg fa pl wd td po)) (hs : sz ≤ 940) : FR 1 285 [.ref 180, .int (Int32.ofNat sz)] H (some (.int (Int32.ofNat 0)), ov H []) := by
  refine FR_ov (l := [(180, mcl p0 p2 sz lim a fr kd nu sg fa pl wd td po)]) (ov_c1 h1) rfl (ov_c1 h1) ?_
  refine RT_step (pc2 := 1) rfl (fun _ _ => rfl) ?_
  refine RT_step (pc2 := 2) rfl (fun _ _ => rfl) ?_
  refine ow_gf rfl rfl rfl hlen rfl ?_
  refine RT_step rfl (fun _ _ => rfl) ?_
  refine RT_if (n_le (Nat.le_refl _) (by omega)) ?_
  refine rt_ico rfl ki_0 ?_
  exact ow_irt rfl rfl rfl
theorem m_skip {H : List AE} {ts : List Int32} {B : Nat → Nat} (hM : MY ts B) (hlen : Nat.ble 204 H.length = true) {p0 p2 nu sg fa pl td : Int32} {sz lim fr kd : Nat} {wd : Int64} {po : List Value} (hs : sz ≤ 940) {dd : Nat} {q : ev_R} : ∀ (r a : Nat), a + r = sz → RT MM dd 205 52 [(0, .ref 180)] [] (ov H [(180, mcl p0 p2 sz lim (skp B r a) fr kd nu sg fa pl wd td po), (181, mtl ts)]) q → RT MM dd 205 0 [(0, .ref 180)] [] (ov H [(180, mcl p0 p2 sz lim a fr kd nu sg fa pl wd td po), (181, mtl ts)]) q := by
  intro r
  induction r with
  | zero =>
    intro a ha h
    have ha : a = sz := by omega
    subst ha
    refine RT_step (pc2 := 1) rfl (fun _ _ => rfl) ?_
    refine ow_gf rfl rfl rfl hlen rfl ?_
    refine RT_step (pc2 := 5) rfl (fun _ _ => rfl) ?_
    refine ow_gf rfl rfl rfl hlen rfl ?_
    refine RT_step rfl (fun _ _ => rfl) ?_
    refine RT_if (n_le (Nat.le_refl _) (by omega)) ?_
    exact h
  | succ r ih =>
    intro a ha h
    have hb := (hM a (by omega)).2
    by_cases c1 : B a = 32
    · rw [show skp B (r + 1) a = skp B r (a + 1) from by show cond (isBl (B a)) _ a = _; rw [show isBl (B a) = true from by rw [c1]; rfl]; rfl] at h
      refine RT_step (pc2 := 1) rfl (fun _ _ => rfl) ?_
      refine ow_gf rfl rfl rfl hlen rfl ?_
      refine RT_step (pc2 := 5) rfl (fun _ _ => rfl) ?_
      refine ow_gf rfl rfl rfl hlen rfl ?_
      refine RT_step rfl (fun _ _ => rfl) ?_
      refine RT_el (n_nle (by omega) (by omega)) ?_
      refine RT_step (pc2 := 12) rfl (fun _ _ => rfl) ?_
      refine ow_gf rfl rfl rfl hlen rfl ?_
      refine RT_step (pc2 := 16) rfl (fun _ _ => rfl) ?_
      refine ow_gf rfl rfl rfl hlen rfl ?_
      refine ow_ial rfl rfl (m_rd hM (show a < 940 by omega)) hlen rfl ?_
      refine rt_bip rfl k8_32 ?_
      refine RT_step rfl (fun _ _ => rfl) ?_
      refine RT_if (n_eq c1) ?_
      refine RT_step (pc2 := 40) rfl (fun _ _ => rfl) ?_
      refine RT_step (pc2 := 41) rfl (fun _ _ => rfl) ?_
      refine ow_gf rfl rfl rfl hlen rfl ?_
      refine rt_ico rfl ki_1 ?_
      refine RT_step (pc2 := 46) rfl (fun _ _ => rfl) ?_
      rw [n_add]
      refine ow_pf rfl rfl rfl rfl rfl hlen rfl rfl ?_
      refine RT_step (pc2 := 0) rfl (fun _ _ => rfl) ?_
      exact ih (a + 1) (by omega) h
    · by_cases c2 : B a = 10
      · rw [show skp B (r + 1) a = skp B r (a + 1) from by show cond (isBl (B a)) _ a = _; rw [show isBl (B a) = true from by rw [c2]; rfl]; rfl] at h
        refine RT_step (pc2 := 1) rfl (fun _ _ => rfl) ?_
        refine ow_gf rfl rfl rfl hlen rfl ?_
        refine RT_step (pc2 := 5) rfl (fun _ _ => rfl) ?_
        refine ow_gf rfl rfl rfl hlen rfl ?_
        refine RT_step rfl (fun _ _ => rfl) ?_
        refine RT_el (n_nle (by omega) (by omega)) ?_
        refine RT_step (pc2 := 12) rfl (fun _ _ => rfl) ?_
        refine ow_gf rfl rfl rfl hlen rfl ?_
        refine RT_step (pc2 := 16) rfl (fun _ _ => rfl) ?_
        refine ow_gf rfl rfl rfl hlen rfl ?_
        refine ow_ial rfl rfl (m_rd hM (show a < 940 by omega)) hlen rfl ?_
        refine rt_bip rfl k8_32 ?_
        refine RT_step rfl (fun _ _ => rfl) ?_
        refine RT_el (n_ne c1 (by omega) (by decide)) ?_
        refine RT_step (pc2 := 26) rfl (fun _ _ => rfl) ?_
        refine ow_gf rfl rfl rfl hlen rfl ?_
        refine RT_step (pc2 := 30) rfl (fun _ _ => rfl) ?_
        refine ow_gf rfl rfl rfl hlen rfl ?_
        refine ow_ial rfl rfl (m_rd hM (show a < 940 by omega)) hlen rfl ?_
        refine rt_bip rfl k8_10 ?_
        refine RT_step rfl (fun _ _ => rfl) ?_
        refine RT_if (n_eq c2) ?_
        refine RT_step (pc2 := 40) rfl (fun _ _ => rfl) ?_
        refine RT_step (pc2 := 41) rfl (fun _ _ => rfl) ?_
        refine ow_gf rfl rfl rfl hlen rfl ?_
        refine rt_ico rfl ki_1 ?_
        refine RT_step (pc2 := 46) rfl (fun _ _ => rfl) ?_
        rw [n_add]
        refine ow_pf rfl rfl rfl rfl rfl hlen rfl rfl ?_
        refine RT_step (pc2 := 0) rfl (fun _ _ => rfl) ?_
        exact ih (a + 1) (by omega) h
      · rw [show skp B (r + 1) a = a from by show cond (isBl (B a)) _ a = a; rw [show isBl (B a) = false from by simp [isBl, nbqf, c1, c2]]; rfl] at h
        refine RT_step (pc2 := 1) rfl (fun _ _ => rfl) ?_
        refine ow_gf rfl rfl rfl hlen rfl ?_
        refine RT_step (pc2 := 5) rfl (fun _ _ => rfl) ?_
        refine ow_gf rfl rfl rfl hlen rfl ?_
        refine RT_step rfl (fun _ _ => rfl) ?_
        refine RT_el (n_nle (by omega) (by omega)) ?_
        refine RT_step (pc2 := 12) rfl (fun _ _ => rfl) ?_
        refine ow_gf rfl rfl rfl hlen rfl ?_
        refine RT_step (pc2 := 16) rfl (fun _ _ => rfl) ?_
        refine ow_gf rfl rfl rfl hlen rfl ?_
        refine ow_ial rfl rfl (m_rd hM (show a < 940 by omega)) hlen rfl ?_
        refine rt_bip rfl k8_32 ?_
        refine RT_step rfl (fun _ _ => rfl) ?_
        refine RT_el (n_ne c1 (by omega) (by decide)) ?_
        refine RT_step (pc2 := 26) rfl (fun _ _ => rfl) ?_
        refine ow_gf rfl rfl rfl hlen rfl ?_
        refine RT_step (pc2 := 30) rfl (fun _ _ => rfl) ?_
        refine ow_gf rfl rfl rfl hlen rfl ?_
        refine ow_ial rfl rfl (m_rd hM (show a < 940 by omega)) hlen rfl ?_
        refine rt_bip rfl k8_10 ?_
        refine RT_step rfl (fun _ _ => rfl) ?_
        refine RT_el (n_ne c2 (by omega) (by decide)) ?_
        exact h
