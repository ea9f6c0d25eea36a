/-! ===== the reference's go, to its end ===== -/
theorem n_sub {a b : Nat} (h : b ≤ a) : Int32.ofNat a - Int32.ofNat b = Int32.ofNat (a - b) := (Int32.ofNat_sub a b h).symm
theorem b01_e {a b : Bool} (h : a = b) : b01 a = b01 b := congrArg b01 h
theorem b01_n {a b : Bool} (h : (a == b) = false) : ¬ b01 a = b01 b := by revert h; cases a <;> cases b <;> decide
theorem mg_1 {H : List AE} {ts : List Int32} {B : Nat → Nat} (hM : MY ts B) (hlen : Nat.ble 204 H.length = true) {p0 p2 nu sg fa pl td : Int32} {sz lim fr kd : Nat} {wd : Int64} {po : List Value} (hs : sz ≤ 940) {dd : Nat} (hd : 1 ≤ dd) {lt g : Bool} {q : ev_R} {a : Nat} (ha : a < sz) {L : List (Nat × Value)} (l0 : ev_g L 0 = some (.ref 180)) (l2 : ev_g L 2 = some (.int (b01 lt))) (l3 : ev_g L 3 = some (.int (b01 g))) (hc : (isLt (B a) || isDg (B a)) = true) (h : RT MM dd 205 243 L [] (ov H [(180, mcl p0 p2 sz lim a fr kd nu sg fa pl wd td po), (181, mtl ts)]) q) : RT MM dd 205 215 L [] (ov H [(180, mcl p0 p2 sz lim a fr kd nu sg fa pl wd td po), (181, mtl ts)]) q := by
  have hb := (hM a (by omega)).2
  cases c1 : isLt (B a) with
  | true =>
    refine rt_ald rfl l0 ?_
    refine rt_ald rfl l0 ?_
    refine ow_gf rfl rfl rfl hlen rfl ?_
    refine ow_iv rfl rfl rfl rfl hlen rfl rfl rfl ((m_tapeAt hM (ov_hl hlen) (ov_at rfl (ov_lt hlen (by decide))) (ov_at rfl (ov_lt hlen (by decide))) hs ha).up hd) rfl ?_
    refine ow_is rfl rfl rfl rfl rfl ((m_isLetter hb).up hd) rfl ?_
    refine RT_step rfl (fun _ _ => rfl) ?_
    refine RT_el (b01_t c1) ?_
    exact h
  | false =>
    have c2 : isDg (B a) = true := by rw [c1] at hc; exact hc
    refine rt_ald rfl l0 ?_
    refine rt_ald rfl l0 ?_
    refine ow_gf rfl rfl rfl hlen rfl ?_
    refine ow_iv rfl rfl rfl rfl hlen rfl rfl rfl ((m_tapeAt hM (ov_hl hlen) (ov_at rfl (ov_lt hlen (by decide))) (ov_at rfl (ov_lt hlen (by decide))) hs ha).up hd) rfl ?_
    refine ow_is rfl rfl rfl rfl rfl ((m_isLetter hb).up hd) rfl ?_
    refine RT_step rfl (fun _ _ => rfl) ?_
    refine RT_if (b01_f c1) ?_
    refine rt_ald rfl l0 ?_
    refine rt_ald rfl l0 ?_
    refine ow_gf rfl rfl rfl hlen rfl ?_
    refine ow_iv rfl rfl rfl rfl hlen rfl rfl rfl ((m_tapeAt hM (ov_hl hlen) (ov_at rfl (ov_lt hlen (by decide))) (ov_at rfl (ov_lt hlen (by decide))) hs ha).up hd) rfl ?_
    refine ow_is rfl rfl rfl rfl rfl ((m_isDigit hb).up hd) rfl ?_
    refine RT_step rfl (fun _ _ => rfl) ?_
    refine RT_el (b01_t c2) ?_
    exact h
theorem mg_0 {H : List AE} {ts : List Int32} {B : Nat → Nat} (hM : MY ts B) (hlen : Nat.ble 204 H.length = true) {p0 p2 nu sg fa pl td : Int32} {sz lim fr kd : Nat} {wd : Int64} {po : List Value} (hs : sz ≤ 940) {dd : Nat} (hd : 1 ≤ dd) {lt g : Bool} {q : ev_R} {a : Nat} (ha : a < sz) {L : List (Nat × Value)} (l0 : ev_g L 0 = some (.ref 180)) (l2 : ev_g L 2 = some (.int (b01 lt))) (l3 : ev_g L 3 = some (.int (b01 g))) (hc : (isLt (B a) || isDg (B a)) = false) (h : RT MM dd 205 350 L [] (ov H [(180, mcl p0 p2 sz lim a fr kd nu sg fa pl wd td po), (181, mtl ts)]) q) : RT MM dd 205 215 L [] (ov H [(180, mcl p0 p2 sz lim a fr kd nu sg fa pl wd td po), (181, mtl ts)]) q := by
  have hb := (hM a (by omega)).2
  rw [Bool.or_eq_false_iff] at hc
  refine rt_ald rfl l0 ?_
  refine rt_ald rfl l0 ?_
  refine ow_gf rfl rfl rfl hlen rfl ?_
  refine ow_iv rfl rfl rfl rfl hlen rfl rfl rfl ((m_tapeAt hM (ov_hl hlen) (ov_at rfl (ov_lt hlen (by decide))) (ov_at rfl (ov_lt hlen (by decide))) hs ha).up hd) rfl ?_
  refine ow_is rfl rfl rfl rfl rfl ((m_isLetter hb).up hd) rfl ?_
  refine RT_step rfl (fun _ _ => rfl) ?_
  refine RT_if (b01_f hc.1) ?_
  refine rt_ald rfl l0 ?_
  refine rt_ald rfl l0 ?_
  refine ow_gf rfl rfl rfl hlen rfl ?_
  refine ow_iv rfl rfl rfl rfl hlen rfl rfl rfl ((m_tapeAt hM (ov_hl hlen) (ov_at rfl (ov_lt hlen (by decide))) (ov_at rfl (ov_lt hlen (by decide))) hs ha).up hd) rfl ?_
  refine ow_is rfl rfl rfl rfl rfl ((m_isDigit hb).up hd) rfl ?_
  refine RT_step rfl (fun _ _ => rfl) ?_
  refine RT_if (b01_f hc.2) ?_
  exact h
theorem mg_2 {H : List AE} {ts : List Int32} {B : Nat → Nat} (hM : MY ts B) (hlen : Nat.ble 204 H.length = true) {p0 p2 nu sg fa pl td : Int32} {sz lim fr kd : Nat} {wd : Int64} {po : List Value} (hs : sz ≤ 940) {dd : Nat} (hd : 1 ≤ dd) {lt g : Bool} {q : ev_R} {a : Nat} (ha : a < sz) {L : List (Nat × Value)} (l0 : ev_g L 0 = some (.ref 180)) (l2 : ev_g L 2 = some (.int (b01 lt))) (l3 : ev_g L 3 = some (.int (b01 g))) (h : ∀ L2, ev_g L2 0 = some (.ref 180) → ev_g L2 2 = some (.int (b01 lt)) → ev_g L2 3 = some (.int (b01 (g && (isLt (B a) == lt)))) → ev_g L2 4 = some (.int (Int32.ofNat (B a))) → RT MM dd 205 273 L2 [] (ov H [(180, mcl p0 p2 sz lim a fr kd nu sg fa pl wd td po), (181, mtl ts)]) q) : RT MM dd 205 243 L [] (ov H [(180, mcl p0 p2 sz lim a fr kd nu sg fa pl wd td po), (181, mtl ts)]) q := by
  have hb := (hM a (by omega)).2
  cases g with
  | false =>
    refine rt_ald rfl l0 ?_
    refine ow_gf rfl rfl rfl hlen rfl ?_
    refine rt_ald rfl l0 ?_
    refine ow_gf rfl rfl rfl hlen rfl ?_
    refine ow_ial rfl rfl (m_rd hM (by omega)) hlen rfl ?_
    refine rt_is2 rfl (by decide +kernel) ?_
    refine rt_ild rfl (gs_o rfl l3 rfl) ?_
    refine RT_step rfl (fun _ _ => rfl) ?_
    refine RT_if (b01_f rfl) ?_
    refine rt_ico rfl ki_0 ?_
    refine rt_ist rfl (by decide +kernel) ?_
    exact h _ (gs_o rfl (gs_o rfl l0 rfl) rfl) (gs_o rfl (gs_o rfl l2 rfl) rfl) gs_n (gs_o rfl gs_n rfl)
  | true =>
    cases c1 : (isLt (B a) == lt) with
    | true =>
      rw [c1] at h
      refine rt_ald rfl l0 ?_
      refine ow_gf rfl rfl rfl hlen rfl ?_
      refine rt_ald rfl l0 ?_
      refine ow_gf rfl rfl rfl hlen rfl ?_
      refine ow_ial rfl rfl (m_rd hM (by omega)) hlen rfl ?_
      refine rt_is2 rfl (by decide +kernel) ?_
      refine rt_ild rfl (gs_o rfl l3 rfl) ?_
      refine RT_step rfl (fun _ _ => rfl) ?_
      refine RT_el (b01_t rfl) ?_
      refine rt_il2 rfl gs_n ?_
      refine ow_is rfl rfl rfl rfl rfl ((m_isLetter hb).up hd) rfl ?_
      refine rt_ild rfl (gs_o rfl l2 rfl) ?_
      refine RT_step rfl (fun _ _ => rfl) ?_
      refine RT_if (b01_e (eq_of_beq c1)) ?_
      refine rt_ico rfl ki_1 ?_
      refine RT_step (pc2 := 272) rfl (fun _ _ => rfl) ?_
      refine rt_ist rfl (by decide +kernel) ?_
      exact h _ (gs_o rfl (gs_o rfl l0 rfl) rfl) (gs_o rfl (gs_o rfl l2 rfl) rfl) gs_n (gs_o rfl gs_n rfl)
    | false =>
      rw [c1] at h
      refine rt_ald rfl l0 ?_
      refine ow_gf rfl rfl rfl hlen rfl ?_
      refine rt_ald rfl l0 ?_
      refine ow_gf rfl rfl rfl hlen rfl ?_
      refine ow_ial rfl rfl (m_rd hM (by omega)) hlen rfl ?_
      refine rt_is2 rfl (by decide +kernel) ?_
      refine rt_ild rfl (gs_o rfl l3 rfl) ?_
      refine RT_step rfl (fun _ _ => rfl) ?_
      refine RT_el (b01_t rfl) ?_
      refine rt_il2 rfl gs_n ?_
      refine ow_is rfl rfl rfl rfl rfl ((m_isLetter hb).up hd) rfl ?_
      refine rt_ild rfl (gs_o rfl l2 rfl) ?_
      refine RT_step rfl (fun _ _ => rfl) ?_
      refine RT_el (b01_n c1) ?_
      refine rt_ico rfl ki_0 ?_
      refine rt_ist rfl (by decide +kernel) ?_
      exact h _ (gs_o rfl (gs_o rfl l0 rfl) rfl) (gs_o rfl (gs_o rfl l2 rfl) rfl) gs_n (gs_o rfl gs_n rfl)
theorem mg_3 {H : List AE} {ts : List Int32} {B : Nat → Nat} (hM : MY ts B) (hlen : Nat.ble 204 H.length = true) {p0 p2 nu sg fa pl td : Int32} {sz lim fr kd : Nat} {wd : Int64} {po : List Value} (hs : sz ≤ 940) {dd : Nat} (hd : 1 ≤ dd) {lt g : Bool} {q : ev_R} {a : Nat} (ha : a < sz) {L : List (Nat × Value)} (l0 : ev_g L 0 = some (.ref 180)) (l2 : ev_g L 2 = some (.int (b01 lt))) (l3 : ev_g L 3 = some (.int (b01 g))) (l4 : ev_g L 4 = some (.int (Int32.ofNat (B a)))) (hf : fr ≤ a) (h : RT MM dd 205 307 L [] (ov H [(180, mcl p0 p2 sz lim a fr kd nu sg fa pl (if a - fr < 7 then mw wd (B a) else wd) td po), (181, mtl ts)]) q) : RT MM dd 205 273 L [] (ov H [(180, mcl p0 p2 sz lim a fr kd nu sg fa pl wd td po), (181, mtl ts)]) q := by
  by_cases c1 : a - fr < 7
  · rw [if_pos c1] at h
    refine rt_ald rfl l0 ?_
    refine ow_gf rfl rfl rfl hlen rfl ?_
    refine rt_ald rfl l0 ?_
    refine ow_gf rfl rfl rfl hlen rfl ?_
    refine RT_step (pc2 := 282) rfl (fun _ _ => rfl) ?_
    rw [n_sub hf]
    refine rt_bip rfl k8_7 ?_
    refine RT_step rfl (fun _ _ => rfl) ?_
    refine RT_el (n_nle c1 (by decide)) ?_
    refine rt_ald rfl l0 ?_
    refine RT_step (pc2 := 291) rfl (fun _ _ => rfl) ?_
    refine rt_ald rfl l0 ?_
    refine ow_gf rfl rfl rfl hlen rfl ?_
    refine RT_step (pc2 := 296) rfl (fun _ _ => rfl) ?_
    refine rt_il2 rfl l4 ?_
    refine RT_step (pc2 := 299) rfl (fun _ _ => rfl) ?_
    refine RT_step (pc2 := 300) rfl (fun _ _ => rfl) ?_
    refine RT_step (pc2 := 303) rfl (fun _ _ => rfl) ?_
    refine RT_step (pc2 := 304) rfl (fun _ _ => rfl) ?_
    refine ow_pf rfl rfl rfl rfl rfl hlen rfl rfl ?_
    exact h
  · rw [if_neg c1] at h
    refine rt_ald rfl l0 ?_
    refine ow_gf rfl rfl rfl hlen rfl ?_
    refine rt_ald rfl l0 ?_
    refine ow_gf rfl rfl rfl hlen rfl ?_
    refine RT_step (pc2 := 282) rfl (fun _ _ => rfl) ?_
    rw [n_sub hf]
    refine rt_bip rfl k8_7 ?_
    refine RT_step rfl (fun _ _ => rfl) ?_
    refine RT_if (n_le (by omega) (by omega)) ?_
    exact h
theorem mg_4 {H : List AE} {ts : List Int32} {B : Nat → Nat} (hM : MY ts B) (hlen : Nat.ble 204 H.length = true) {p0 p2 nu sg fa pl td : Int32} {sz lim fr kd : Nat} {wd : Int64} {po : List Value} (hs : sz ≤ 940) {dd : Nat} (hd : 1 ≤ dd) {lt g : Bool} {q : ev_R} {a : Nat} (ha : a < sz) {L : List (Nat × Value)} (l0 : ev_g L 0 = some (.ref 180)) (l2 : ev_g L 2 = some (.int (b01 lt))) (l3 : ev_g L 3 = some (.int (b01 g))) (l4 : ev_g L 4 = some (.int (Int32.ofNat (B a)))) (hf : fr ≤ a) (h : RT MM dd 205 337 L [] (ov H [(180, mcl p0 p2 sz lim a fr kd (if a - fr < 3 then mn nu (B a) else nu) sg fa pl wd td po), (181, mtl ts)]) q) : RT MM dd 205 307 L [] (ov H [(180, mcl p0 p2 sz lim a fr kd nu sg fa pl wd td po), (181, mtl ts)]) q := by
  by_cases c1 : a - fr < 3
  · rw [if_pos c1] at h
    refine rt_ald rfl l0 ?_
    refine ow_gf rfl rfl rfl hlen rfl ?_
    refine rt_ald rfl l0 ?_
    refine ow_gf rfl rfl rfl hlen rfl ?_
    refine RT_step (pc2 := 316) rfl (fun _ _ => rfl) ?_
    rw [n_sub hf]
    refine rt_ico rfl ki_3 ?_
    refine RT_step rfl (fun _ _ => rfl) ?_
    refine RT_el (n_nle c1 (by decide)) ?_
    refine rt_ald rfl l0 ?_
    refine rt_bip rfl k8_10 ?_
    refine rt_ald rfl l0 ?_
    refine ow_gf rfl rfl rfl hlen rfl ?_
    refine RT_step (pc2 := 328) rfl (fun _ _ => rfl) ?_
    refine rt_il2 rfl l4 ?_
    refine RT_step (pc2 := 331) rfl (fun _ _ => rfl) ?_
    refine rt_bip rfl k8_48 ?_
    refine RT_step (pc2 := 334) rfl (fun _ _ => rfl) ?_
    refine ow_pf rfl rfl rfl rfl rfl hlen rfl rfl ?_
    exact h
  · rw [if_neg c1] at h
    refine rt_ald rfl l0 ?_
    refine ow_gf rfl rfl rfl hlen rfl ?_
    refine rt_ald rfl l0 ?_
    refine ow_gf rfl rfl rfl hlen rfl ?_
    refine RT_step (pc2 := 316) rfl (fun _ _ => rfl) ?_
    rw [n_sub hf]
    refine rt_ico rfl ki_3 ?_
    refine RT_step rfl (fun _ _ => rfl) ?_
    refine RT_if (n_le (by omega) (by omega)) ?_
    exact h
theorem mg_5 {H : List AE} {ts : List Int32} {B : Nat → Nat} (hM : MY ts B) (hlen : Nat.ble 204 H.length = true) {p0 p2 nu sg fa pl td : Int32} {sz lim fr kd : Nat} {wd : Int64} {po : List Value} (hs : sz ≤ 940) {dd : Nat} (hd : 1 ≤ dd) {lt g : Bool} {q : ev_R} {a : Nat} (ha : a < sz) {L : List (Nat × Value)} (l0 : ev_g L 0 = some (.ref 180)) (l2 : ev_g L 2 = some (.int (b01 lt))) (l3 : ev_g L 3 = some (.int (b01 g))) (l4 : ev_g L 4 = some (.int (Int32.ofNat (B a)))) (hf : fr ≤ a) (h : RT MM dd 205 215 L [] (ov H [(180, mcl p0 p2 sz lim (a + 1) fr kd nu sg fa pl wd td po), (181, mtl ts)]) q) : RT MM dd 205 337 L [] (ov H [(180, mcl p0 p2 sz lim a fr kd nu sg fa pl wd td po), (181, mtl ts)]) q := by
  refine rt_ald rfl l0 ?_
  refine RT_step (pc2 := 339) rfl (fun _ _ => rfl) ?_
  refine ow_gf rfl rfl rfl hlen rfl ?_
  refine rt_ico rfl ki_1 ?_
  refine RT_step (pc2 := 344) rfl (fun _ _ => rfl) ?_
  rw [n_add]
  refine ow_pf rfl rfl rfl rfl rfl hlen rfl rfl ?_
  refine RT_step (pc2 := 215) rfl (fun _ _ => rfl) ?_
  exact h
theorem m_run {H : List AE} {ts : List Int32} {B : Nat → Nat} (hM : MY ts B) (hlen : Nat.ble 204 H.length = true) {p0 p2 sg fa pl td : Int32} {sz lim fr kd : Nat} {po : List Value} (hs : sz ≤ 940) {dd : Nat} (hd : 1 ≤ dd) {lt : Bool} {q : ev_R} : ∀ (r a : Nat) (g : Bool) (wd : Int64) (nu : Int32) (L : List (Nat × Value)), a + r = sz → fr ≤ a → ev_g L 0 = some (.ref 180) → ev_g L 2 = some (.int (b01 lt)) → ev_g L 3 = some (.int (b01 g)) → (∀ L2, ev_g L2 0 = some (.ref 180) → ev_g L2 2 = some (.int (b01 lt)) → ev_g L2 3 = some (.int (b01 (mrun B lt fr r a g wd nu).2.1)) → RT MM dd 205 350 L2 [] (ov H [(180, mcl p0 p2 sz lim (mrun B lt fr r a g wd nu).1 fr kd (mrun B lt fr r a g wd nu).2.2.2 sg fa pl (mrun B lt fr r a g wd nu).2.2.1 td po), (181, mtl ts)]) q) → RT MM dd 205 215 L [] (ov H [(180, mcl p0 p2 sz lim a fr kd nu sg fa pl wd td po), (181, mtl ts)]) q := by
  intro r
  induction r with
  | zero =>
    intro a g wd nu L ha hf l0 l2 l3 h
    have ha : a = sz := by omega
    subst ha
    refine rt_ald rfl l0 ?_
    refine rt_ald rfl l0 ?_
    refine ow_gf rfl rfl rfl hlen rfl ?_
    refine ow_iv rfl rfl rfl rfl hlen rfl rfl rfl ((m_tapeEnd (ov_hl hlen) (ov_at rfl (ov_lt hlen (by decide))) hs).up hd) rfl ?_
    refine ow_is rfl rfl rfl rfl rfl ((m_isLetter (c := 0) (by decide)).up hd) rfl ?_
    refine RT_step rfl (fun _ _ => rfl) ?_
    refine RT_if (b01_f rfl) ?_
    refine rt_ald rfl l0 ?_
    refine rt_ald rfl l0 ?_
    refine ow_gf rfl rfl rfl hlen rfl ?_
    refine ow_iv rfl rfl rfl rfl hlen rfl rfl rfl ((m_tapeEnd (ov_hl hlen) (ov_at rfl (ov_lt hlen (by decide))) hs).up hd) rfl ?_
    refine ow_is rfl rfl rfl rfl rfl ((m_isDigit (c := 0) (by decide)).up hd) rfl ?_
    refine RT_step rfl (fun _ _ => rfl) ?_
    refine RT_if (b01_f rfl) ?_
    exact h L l0 l2 l3
  | succ r ih =>
    intro a g wd nu L ha hf l0 l2 l3 h
    cases hc : (isLt (B a) || isDg (B a)) with
    | false =>
      rw [show mrun B lt fr (r + 1) a g wd nu = (a, g, wd, nu) from by show cond (isLt (B a) || isDg (B a)) _ _ = _; rw [hc]; rfl] at h
      exact mg_0 hM hlen hs hd (by omega) l0 l2 l3 hc (h L l0 l2 l3)
    | true =>
      rw [show mrun B lt fr (r + 1) a g wd nu = mrun B lt fr r (a + 1) (g && (isLt (B a) == lt)) (if a - fr < 7 then mw wd (B a) else wd) (if a - fr < 3 then mn nu (B a) else nu) from by show cond (isLt (B a) || isDg (B a)) _ _ = _; rw [hc]; rfl] at h
      refine mg_1 hM hlen hs hd (by omega) l0 l2 l3 hc ?_
      refine mg_2 hM hlen hs hd (by omega) l0 l2 l3 (fun L2 k0 k2 k3 k4 => ?_)
      refine mg_3 hM hlen hs hd (by omega) k0 k2 k3 k4 hf ?_
      refine mg_4 hM hlen hs hd (by omega) k0 k2 k3 k4 hf ?_
      refine mg_5 hM hlen hs hd (by omega) k0 k2 k3 k4 hf ?_
      exact ih (a + 1) _ _ _ L2 (by omega) (by omega) k0 k2 k3 h
/-- what go leaves: to, from, kind, number, sign, word -/
def goK (lt g : Bool) (len : Nat) : Nat := if g = false ∨ (cond lt 7 3) < len then 1 else cond lt 2 3
def goV (B : Nat → Nat) (n lim a : Nat) (nu sg : Int32) (wd : Int64) : Nat × Nat × Nat × Int32 × Int32 × Int64 :=
  if lim < n ∧ lim ≤ skp B (n - a) a then (skp B (n - a) a, lim, 1, nu, sg, wd)
  else if n ≤ skp B (n - a) a then (skp B (n - a) a, skp B (n - a) a, 0, nu, sg, wd)
  else if isLt (B (skp B (n - a) a)) = true ∨ isDg (B (skp B (n - a) a)) = true then ((mrun B (isLt (B (skp B (n - a) a))) (skp B (n - a) a) (n - skp B (n - a) a) (skp B (n - a) a) true 0 0).1, skp B (n - a) a, goK (isLt (B (skp B (n - a) a))) (mrun B (isLt (B (skp B (n - a) a))) (skp B (n - a) a) (n - skp B (n - a) a) (skp B (n - a) a) true 0 0).2.1 ((mrun B (isLt (B (skp B (n - a) a))) (skp B (n - a) a) (n - skp B (n - a) a) (skp B (n - a) a) true 0 0).1 - skp B (n - a) a), (mrun B (isLt (B (skp B (n - a) a))) (skp B (n - a) a) (n - skp B (n - a) a) (skp B (n - a) a) true 0 0).2.2.2, sg, (mrun B (isLt (B (skp B (n - a) a))) (skp B (n - a) a) (n - skp B (n - a) a) (skp B (n - a) a) true 0 0).2.2.1)
  else (skp B (n - a) a + 1, skp B (n - a) a, cond (isMk (B (skp B (n - a) a))) 4 1, nu, Int32.ofNat (B (skp B (n - a) a)), wd)
theorem mrun_le (B : Nat → Nat) (lt : Bool) (fr : Nat) : ∀ r a g wd nu, a ≤ (mrun B lt fr r a g wd nu).1 ∧ (mrun B lt fr r a g wd nu).1 ≤ a + r
  | 0, a, g, wd, nu => ⟨Nat.le_refl _, Nat.le_refl _⟩
  | r + 1, a, g, wd, nu => by
    show a ≤ (cond (isLt (B a) || isDg (B a)) (mrun B lt fr r (a + 1) _ _ _) (a, g, wd, nu)).1 ∧ (cond (isLt (B a) || isDg (B a)) (mrun B lt fr r (a + 1) _ _ _) (a, g, wd, nu)).1 ≤ a + (r + 1)
    cases (isLt (B a) || isDg (B a)) with
    | true => have := mrun_le B lt fr r (a + 1) (g && (isLt (B a) == lt)) (if a - fr < 7 then mw wd (B a) else wd) (if a - fr < 3 then mn nu (B a) else nu); simp only [cond_true]; omega
    | false => simp only [cond_false]; omega
theorem m_goR {H : List AE} {ts : List Int32} {B : Nat → Nat} (hM : MY ts B) (hlen : Nat.ble 204 H.length = true) {p0 p2 nu sg fa pl td : Int32} {sz lim kd s : Nat} {wd : Int64} {po : List Value} (hs : sz ≤ 940) (hl : lim ≤ 940) (hss : s < sz) {v : Nat × Nat × Nat × Int32 × Int32 × Int64} (hv : v = (if isLt (B s) = true ∨ isDg (B s) = true then ((mrun B (isLt (B s)) s (sz - s) s true 0 0).1, s, goK (isLt (B s)) (mrun B (isLt (B s)) s (sz - s) s true 0 0).2.1 ((mrun B (isLt (B s)) s (sz - s) s true 0 0).1 - s), (mrun B (isLt (B s)) s (sz - s) s true 0 0).2.2.2, sg, (mrun B (isLt (B s)) s (sz - s) s true 0 0).2.2.1) else (s + 1, s, cond (isMk (B s)) 4 1, nu, Int32.ofNat (B s), wd))) {L0 : List (Nat × Value)} {st0 : List Value} {h0 : List AE} {pc0 : Nat} (k : RT MM 1 205 113 [(0, .ref 180)] [] (ov H [(180, mcl p0 p2 sz lim s s kd nu sg fa pl wd td po), (181, mtl ts)]) (none, (ov H [(180, mcl p0 p2 sz lim v.1 v.2.1 v.2.2.1 v.2.2.2.1 v.2.2.2.2.1 fa pl v.2.2.2.2.2 td po), (181, mtl ts)])) → RT MM 1 205 pc0 L0 st0 h0 (none, (ov H [(180, mcl p0 p2 sz lim v.1 v.2.1 v.2.2.1 v.2.2.2.1 v.2.2.2.2.1 fa pl v.2.2.2.2.2 td po), (181, mtl ts)]))) : RT MM 1 205 pc0 L0 st0 h0 (none, (ov H [(180, mcl p0 p2 sz lim v.1 v.2.1 v.2.2.1 v.2.2.2.1 v.2.2.2.2.1 fa pl v.2.2.2.2.2 td po), (181, mtl ts)])) := by
  refine k ?_
  have hb := (hM s (by omega)).2
  have hr := mrun_le B (isLt (B s)) s (sz - s) s true 0 0
  cases c1 : isLt (B s) with
  | true =>
    rw [c1, if_pos (Or.inl rfl)] at hv
    subst hv
    rw [c1] at hr
    refine RT_step (pc2 := 114) rfl (fun _ _ => rfl) ?_
    refine ow_gf rfl rfl rfl hlen rfl ?_
    refine RT_step (pc2 := 118) rfl (fun _ _ => rfl) ?_
    refine ow_gf rfl rfl rfl hlen rfl ?_
    refine ow_ial rfl rfl (m_rd hM (by omega)) hlen rfl ?_
    refine RT_step (pc2 := 123) rfl (fun _ _ => rfl) ?_
    refine RT_step (pc2 := 124) rfl (fun _ _ => rfl) ?_
    refine ow_is rfl rfl rfl rfl rfl ((m_isLetter hb).up (Nat.le_refl 1)) rfl ?_
    refine RT_step rfl (fun _ _ => rfl) ?_
    refine RT_el (b01_t c1) ?_
    refine RT_step (pc2 := 199) rfl (fun _ _ => rfl) ?_
    refine ow_is rfl rfl rfl rfl rfl ((m_isLetter hb).up (Nat.le_refl 1)) rfl ?_
    refine RT_step (pc2 := 203) rfl (fun _ _ => rfl) ?_
    refine rt_ico rfl ki_1 ?_
    refine RT_step (pc2 := 205) rfl (fun _ _ => rfl) ?_
    refine RT_step (pc2 := 206) rfl (fun _ _ => rfl) ?_
    refine RT_step (pc2 := 207) rfl (fun _ _ => rfl) ?_
    refine ow_pf rfl rfl rfl rfl rfl hlen rfl rfl ?_
    refine RT_step (pc2 := 211) rfl (fun _ _ => rfl) ?_
    refine rt_ico rfl ki_0 ?_
    refine ow_pf rfl rfl rfl rfl rfl hlen rfl rfl ?_
    refine m_run (lt := true) (fr := s) hM hlen hs (Nat.le_refl 1) (sz - s) s true 0 0 _ (by omega) (Nat.le_refl s) rfl (by show some (Value.int (b01 (isLt (B s)))) = _; rw [c1]) rfl (fun L2 k0 k2 k3 => ?_)
    cases c7 : (mrun B true s (sz - s) s true 0 0).2.1 with
    | false =>
      rw [c7] at k3
      rw [show goK true false ((mrun B true s (sz - s) s true 0 0).1 - s) = 1 from if_pos (Or.inl rfl)]
      refine rt_ald rfl k0 ?_
      refine rt_ild rfl k3 ?_
      refine RT_step rfl (fun _ _ => rfl) ?_
      refine RT_if (b01_f rfl) ?_
      refine rt_ico rfl ki_1 ?_
      refine RT_step (pc2 := 390) rfl (fun _ _ => rfl) ?_
      refine ow_pf rfl rfl rfl rfl rfl hlen rfl rfl ?_
      exact ow_ret rfl rfl rfl
    | true =>
      rw [c7] at k3
      by_cases c8 : 7 < (mrun B true s (sz - s) s true 0 0).1 - s
      · rw [show goK true true ((mrun B true s (sz - s) s true 0 0).1 - s) = 1 from if_pos (Or.inr c8)]
        refine rt_ald rfl k0 ?_
        refine rt_ild rfl k3 ?_
        refine RT_step rfl (fun _ _ => rfl) ?_
        refine RT_el (b01_t rfl) ?_
        refine rt_ald rfl k0 ?_
        refine ow_gf rfl rfl rfl hlen rfl ?_
        refine rt_ald rfl k0 ?_
        refine ow_gf rfl rfl rfl hlen rfl ?_
        refine RT_step (pc2 := 364) rfl (fun _ _ => rfl) ?_
        rw [n_sub (by omega)]
        refine rt_ild rfl k2 ?_
        refine RT_step rfl (fun _ _ => rfl) ?_
        refine RT_el (b01_t rfl) ?_
        refine rt_bip rfl k8_7 ?_
        refine RT_step (pc2 := 374) rfl (fun _ _ => rfl) ?_
        refine RT_step rfl (fun _ _ => rfl) ?_
        refine RT_el (n_nle c8 (by omega)) ?_
        refine rt_ico rfl ki_1 ?_
        refine RT_step (pc2 := 390) rfl (fun _ _ => rfl) ?_
        refine ow_pf rfl rfl rfl rfl rfl hlen rfl rfl ?_
        exact ow_ret rfl rfl rfl
      · rw [show goK true true ((mrun B true s (sz - s) s true 0 0).1 - s) = 2 from if_neg (fun e => e.elim (fun e => by cases e) c8)]
        refine rt_ald rfl k0 ?_
        refine rt_ild rfl k3 ?_
        refine RT_step rfl (fun _ _ => rfl) ?_
        refine RT_el (b01_t rfl) ?_
        refine rt_ald rfl k0 ?_
        refine ow_gf rfl rfl rfl hlen rfl ?_
        refine rt_ald rfl k0 ?_
        refine ow_gf rfl rfl rfl hlen rfl ?_
        refine RT_step (pc2 := 364) rfl (fun _ _ => rfl) ?_
        rw [n_sub (by omega)]
        refine rt_ild rfl k2 ?_
        refine RT_step rfl (fun _ _ => rfl) ?_
        refine RT_el (b01_t rfl) ?_
        refine rt_bip rfl k8_7 ?_
        refine RT_step (pc2 := 374) rfl (fun _ _ => rfl) ?_
        refine RT_step rfl (fun _ _ => rfl) ?_
        refine RT_if (n_le (by omega) (by decide)) ?_
        refine rt_ild rfl k2 ?_
        refine RT_step rfl (fun _ _ => rfl) ?_
        refine RT_el (b01_t rfl) ?_
        refine rt_ico rfl ki_2 ?_
        refine RT_step (pc2 := 390) rfl (fun _ _ => rfl) ?_
        refine ow_pf rfl rfl rfl rfl rfl hlen rfl rfl ?_
        exact ow_ret rfl rfl rfl
  | false =>
    rw [c1] at hr
    cases c2 : isDg (B s) with
    | true =>
      rw [c1, c2, if_pos (Or.inr rfl)] at hv
      subst hv
      refine RT_step (pc2 := 114) rfl (fun _ _ => rfl) ?_
      refine ow_gf rfl rfl rfl hlen rfl ?_
      refine RT_step (pc2 := 118) rfl (fun _ _ => rfl) ?_
      refine ow_gf rfl rfl rfl hlen rfl ?_
      refine ow_ial rfl rfl (m_rd hM (by omega)) hlen rfl ?_
      refine RT_step (pc2 := 123) rfl (fun _ _ => rfl) ?_
      refine RT_step (pc2 := 124) rfl (fun _ _ => rfl) ?_
      refine ow_is rfl rfl rfl rfl rfl ((m_isLetter hb).up (Nat.le_refl 1)) rfl ?_
      refine RT_step rfl (fun _ _ => rfl) ?_
      refine RT_if (b01_f c1) ?_
      refine RT_step (pc2 := 131) rfl (fun _ _ => rfl) ?_
      refine ow_is rfl rfl rfl rfl rfl ((m_isDigit hb).up (Nat.le_refl 1)) rfl ?_
      refine RT_step rfl (fun _ _ => rfl) ?_
      refine RT_el (b01_t c2) ?_
      refine RT_step (pc2 := 199) rfl (fun _ _ => rfl) ?_
      refine ow_is rfl rfl rfl rfl rfl ((m_isLetter hb).up (Nat.le_refl 1)) rfl ?_
      refine RT_step (pc2 := 203) rfl (fun _ _ => rfl) ?_
      refine rt_ico rfl ki_1 ?_
      refine RT_step (pc2 := 205) rfl (fun _ _ => rfl) ?_
      refine RT_step (pc2 := 206) rfl (fun _ _ => rfl) ?_
      refine RT_step (pc2 := 207) rfl (fun _ _ => rfl) ?_
      refine ow_pf rfl rfl rfl rfl rfl hlen rfl rfl ?_
      refine RT_step (pc2 := 211) rfl (fun _ _ => rfl) ?_
      refine rt_ico rfl ki_0 ?_
      refine ow_pf rfl rfl rfl rfl rfl hlen rfl rfl ?_
      refine m_run (lt := false) (fr := s) hM hlen hs (Nat.le_refl 1) (sz - s) s true 0 0 _ (by omega) (Nat.le_refl s) rfl (by show some (Value.int (b01 (isLt (B s)))) = _; rw [c1]) rfl (fun L2 k0 k2 k3 => ?_)
      cases c7 : (mrun B false s (sz - s) s true 0 0).2.1 with
      | false =>
        rw [c7] at k3
        rw [show goK false false ((mrun B false s (sz - s) s true 0 0).1 - s) = 1 from if_pos (Or.inl rfl)]
        refine rt_ald rfl k0 ?_
        refine rt_ild rfl k3 ?_
        refine RT_step rfl (fun _ _ => rfl) ?_
        refine RT_if (b01_f rfl) ?_
        refine rt_ico rfl ki_1 ?_
        refine RT_step (pc2 := 390) rfl (fun _ _ => rfl) ?_
        refine ow_pf rfl rfl rfl rfl rfl hlen rfl rfl ?_
        exact ow_ret rfl rfl rfl
      | true =>
        rw [c7] at k3
        by_cases c8 : 3 < (mrun B false s (sz - s) s true 0 0).1 - s
        · rw [show goK false true ((mrun B false s (sz - s) s true 0 0).1 - s) = 1 from if_pos (Or.inr c8)]
          refine rt_ald rfl k0 ?_
          refine rt_ild rfl k3 ?_
          refine RT_step rfl (fun _ _ => rfl) ?_
          refine RT_el (b01_t rfl) ?_
          refine rt_ald rfl k0 ?_
          refine ow_gf rfl rfl rfl hlen rfl ?_
          refine rt_ald rfl k0 ?_
          refine ow_gf rfl rfl rfl hlen rfl ?_
          refine RT_step (pc2 := 364) rfl (fun _ _ => rfl) ?_
          rw [n_sub (by omega)]
          refine rt_ild rfl k2 ?_
          refine RT_step rfl (fun _ _ => rfl) ?_
          refine RT_if (b01_f rfl) ?_
          refine rt_ico rfl ki_3 ?_
          refine RT_step rfl (fun _ _ => rfl) ?_
          refine RT_el (n_nle c8 (by omega)) ?_
          refine rt_ico rfl ki_1 ?_
          refine RT_step (pc2 := 390) rfl (fun _ _ => rfl) ?_
          refine ow_pf rfl rfl rfl rfl rfl hlen rfl rfl ?_
          exact ow_ret rfl rfl rfl
        · rw [show goK false true ((mrun B false s (sz - s) s true 0 0).1 - s) = 3 from if_neg (fun e => e.elim (fun e => by cases e) c8)]
          refine rt_ald rfl k0 ?_
          refine rt_ild rfl k3 ?_
          refine RT_step rfl (fun _ _ => rfl) ?_
          refine RT_el (b01_t rfl) ?_
          refine rt_ald rfl k0 ?_
          refine ow_gf rfl rfl rfl hlen rfl ?_
          refine rt_ald rfl k0 ?_
          refine ow_gf rfl rfl rfl hlen rfl ?_
          refine RT_step (pc2 := 364) rfl (fun _ _ => rfl) ?_
          rw [n_sub (by omega)]
          refine rt_ild rfl k2 ?_
          refine RT_step rfl (fun _ _ => rfl) ?_
          refine RT_if (b01_f rfl) ?_
          refine rt_ico rfl ki_3 ?_
          refine RT_step rfl (fun _ _ => rfl) ?_
          refine RT_if (n_le (by omega) (by decide)) ?_
          refine rt_ild rfl k2 ?_
          refine RT_step rfl (fun _ _ => rfl) ?_
          refine RT_if (b01_f rfl) ?_
          refine rt_ico rfl ki_3 ?_
          refine ow_pf rfl rfl rfl rfl rfl hlen rfl rfl ?_
          exact ow_ret rfl rfl rfl
    | false =>
      rw [c1, c2, if_neg (fun e => e.elim (fun e => by cases e) (fun e => by cases e))] at hv
      subst hv
      by_cases d0 : B s = 59
      · rw [show isMk (B s) = true from by rw [d0]; rfl]
        refine RT_step (pc2 := 114) rfl (fun _ _ => rfl) ?_
        refine ow_gf rfl rfl rfl hlen rfl ?_
        refine RT_step (pc2 := 118) rfl (fun _ _ => rfl) ?_
        refine ow_gf rfl rfl rfl hlen rfl ?_
        refine ow_ial rfl rfl (m_rd hM (by omega)) hlen rfl ?_
        refine RT_step (pc2 := 123) rfl (fun _ _ => rfl) ?_
        refine RT_step (pc2 := 124) rfl (fun _ _ => rfl) ?_
        refine ow_is rfl rfl rfl rfl rfl ((m_isLetter hb).up (Nat.le_refl 1)) rfl ?_
        refine RT_step rfl (fun _ _ => rfl) ?_
        refine RT_if (b01_f c1) ?_
        refine RT_step (pc2 := 131) rfl (fun _ _ => rfl) ?_
        refine ow_is rfl rfl rfl rfl rfl ((m_isDigit hb).up (Nat.le_refl 1)) rfl ?_
        refine RT_step rfl (fun _ _ => rfl) ?_
        refine RT_if (b01_f c2) ?_
        refine RT_step (pc2 := 138) rfl (fun _ _ => rfl) ?_
        refine RT_step (pc2 := 139) rfl (fun _ _ => rfl) ?_
        refine rt_bip rfl k8_59 ?_
        refine RT_step rfl (fun _ _ => rfl) ?_
        refine RT_if (n_eq d0) ?_
        refine rt_ico rfl ki_4 ?_
        refine RT_step (pc2 := 179) rfl (fun _ _ => rfl) ?_
        refine ow_pf rfl rfl rfl rfl rfl hlen rfl rfl ?_
        refine RT_step (pc2 := 183) rfl (fun _ _ => rfl) ?_
        refine RT_step (pc2 := 184) rfl (fun _ _ => rfl) ?_
        refine ow_pf rfl rfl rfl rfl rfl hlen rfl rfl ?_
        refine RT_step (pc2 := 188) rfl (fun _ _ => rfl) ?_
        refine RT_step (pc2 := 189) rfl (fun _ _ => rfl) ?_
        refine ow_gf rfl rfl rfl hlen rfl ?_
        refine rt_ico rfl ki_1 ?_
        refine RT_step (pc2 := 194) rfl (fun _ _ => rfl) ?_
        rw [n_add]
        refine ow_pf rfl rfl rfl rfl rfl hlen rfl rfl ?_
        exact ow_ret rfl rfl rfl
      · by_cases d1 : B s = 60
        · rw [show isMk (B s) = true from by rw [d1]; rfl]
          refine RT_step (pc2 := 114) rfl (fun _ _ => rfl) ?_
          refine ow_gf rfl rfl rfl hlen rfl ?_
          refine RT_step (pc2 := 118) rfl (fun _ _ => rfl) ?_
          refine ow_gf rfl rfl rfl hlen rfl ?_
          refine ow_ial rfl rfl (m_rd hM (by omega)) hlen rfl ?_
          refine RT_step (pc2 := 123) rfl (fun _ _ => rfl) ?_
          refine RT_step (pc2 := 124) rfl (fun _ _ => rfl) ?_
          refine ow_is rfl rfl rfl rfl rfl ((m_isLetter hb).up (Nat.le_refl 1)) rfl ?_
          refine RT_step rfl (fun _ _ => rfl) ?_
          refine RT_if (b01_f c1) ?_
          refine RT_step (pc2 := 131) rfl (fun _ _ => rfl) ?_
          refine ow_is rfl rfl rfl rfl rfl ((m_isDigit hb).up (Nat.le_refl 1)) rfl ?_
          refine RT_step rfl (fun _ _ => rfl) ?_
          refine RT_if (b01_f c2) ?_
          refine RT_step (pc2 := 138) rfl (fun _ _ => rfl) ?_
          refine RT_step (pc2 := 139) rfl (fun _ _ => rfl) ?_
          refine rt_bip rfl k8_59 ?_
          refine RT_step rfl (fun _ _ => rfl) ?_
          refine RT_el (n_ne d0 (by omega) (by decide)) ?_
          refine RT_step (pc2 := 145) rfl (fun _ _ => rfl) ?_
          refine rt_bip rfl k8_60 ?_
          refine RT_step rfl (fun _ _ => rfl) ?_
          refine RT_if (n_eq d1) ?_
          refine rt_ico rfl ki_4 ?_
          refine RT_step (pc2 := 179) rfl (fun _ _ => rfl) ?_
          refine ow_pf rfl rfl rfl rfl rfl hlen rfl rfl ?_
          refine RT_step (pc2 := 183) rfl (fun _ _ => rfl) ?_
          refine RT_step (pc2 := 184) rfl (fun _ _ => rfl) ?_
          refine ow_pf rfl rfl rfl rfl rfl hlen rfl rfl ?_
          refine RT_step (pc2 := 188) rfl (fun _ _ => rfl) ?_
          refine RT_step (pc2 := 189) rfl (fun _ _ => rfl) ?_
          refine ow_gf rfl rfl rfl hlen rfl ?_
          refine rt_ico rfl ki_1 ?_
          refine RT_step (pc2 := 194) rfl (fun _ _ => rfl) ?_
          rw [n_add]
          refine ow_pf rfl rfl rfl rfl rfl hlen rfl rfl ?_
          exact ow_ret rfl rfl rfl
        · by_cases d2 : B s = 61
          · rw [show isMk (B s) = true from by rw [d2]; rfl]
            refine RT_step (pc2 := 114) rfl (fun _ _ => rfl) ?_
            refine ow_gf rfl rfl rfl hlen rfl ?_
            refine RT_step (pc2 := 118) rfl (fun _ _ => rfl) ?_
            refine ow_gf rfl rfl rfl hlen rfl ?_
            refine ow_ial rfl rfl (m_rd hM (by omega)) hlen rfl ?_
            refine RT_step (pc2 := 123) rfl (fun _ _ => rfl) ?_
            refine RT_step (pc2 := 124) rfl (fun _ _ => rfl) ?_
            refine ow_is rfl rfl rfl rfl rfl ((m_isLetter hb).up (Nat.le_refl 1)) rfl ?_
            refine RT_step rfl (fun _ _ => rfl) ?_
            refine RT_if (b01_f c1) ?_
            refine RT_step (pc2 := 131) rfl (fun _ _ => rfl) ?_
            refine ow_is rfl rfl rfl rfl rfl ((m_isDigit hb).up (Nat.le_refl 1)) rfl ?_
            refine RT_step rfl (fun _ _ => rfl) ?_
            refine RT_if (b01_f c2) ?_
            refine RT_step (pc2 := 138) rfl (fun _ _ => rfl) ?_
            refine RT_step (pc2 := 139) rfl (fun _ _ => rfl) ?_
            refine rt_bip rfl k8_59 ?_
            refine RT_step rfl (fun _ _ => rfl) ?_
            refine RT_el (n_ne d0 (by omega) (by decide)) ?_
            refine RT_step (pc2 := 145) rfl (fun _ _ => rfl) ?_
            refine rt_bip rfl k8_60 ?_
            refine RT_step rfl (fun _ _ => rfl) ?_
            refine RT_el (n_ne d1 (by omega) (by decide)) ?_
            refine RT_step (pc2 := 151) rfl (fun _ _ => rfl) ?_
            refine rt_bip rfl k8_61 ?_
            refine RT_step rfl (fun _ _ => rfl) ?_
            refine RT_if (n_eq d2) ?_
            refine rt_ico rfl ki_4 ?_
            refine RT_step (pc2 := 179) rfl (fun _ _ => rfl) ?_
            refine ow_pf rfl rfl rfl rfl rfl hlen rfl rfl ?_
            refine RT_step (pc2 := 183) rfl (fun _ _ => rfl) ?_
            refine RT_step (pc2 := 184) rfl (fun _ _ => rfl) ?_
            refine ow_pf rfl rfl rfl rfl rfl hlen rfl rfl ?_
            refine RT_step (pc2 := 188) rfl (fun _ _ => rfl) ?_
            refine RT_step (pc2 := 189) rfl (fun _ _ => rfl) ?_
            refine ow_gf rfl rfl rfl hlen rfl ?_
            refine rt_ico rfl ki_1 ?_
            refine RT_step (pc2 := 194) rfl (fun _ _ => rfl) ?_
            rw [n_add]
            refine ow_pf rfl rfl rfl rfl rfl hlen rfl rfl ?_
            exact ow_ret rfl rfl rfl
          · by_cases d3 : B s = 62
            · rw [show isMk (B s) = true from by rw [d3]; rfl]
              refine RT_step (pc2 := 114) rfl (fun _ _ => rfl) ?_
              refine ow_gf rfl rfl rfl hlen rfl ?_
              refine RT_step (pc2 := 118) rfl (fun _ _ => rfl) ?_
              refine ow_gf rfl rfl rfl hlen rfl ?_
              refine ow_ial rfl rfl (m_rd hM (by omega)) hlen rfl ?_
              refine RT_step (pc2 := 123) rfl (fun _ _ => rfl) ?_
              refine RT_step (pc2 := 124) rfl (fun _ _ => rfl) ?_
              refine ow_is rfl rfl rfl rfl rfl ((m_isLetter hb).up (Nat.le_refl 1)) rfl ?_
              refine RT_step rfl (fun _ _ => rfl) ?_
              refine RT_if (b01_f c1) ?_
              refine RT_step (pc2 := 131) rfl (fun _ _ => rfl) ?_
              refine ow_is rfl rfl rfl rfl rfl ((m_isDigit hb).up (Nat.le_refl 1)) rfl ?_
              refine RT_step rfl (fun _ _ => rfl) ?_
              refine RT_if (b01_f c2) ?_
              refine RT_step (pc2 := 138) rfl (fun _ _ => rfl) ?_
              refine RT_step (pc2 := 139) rfl (fun _ _ => rfl) ?_
              refine rt_bip rfl k8_59 ?_
              refine RT_step rfl (fun _ _ => rfl) ?_
              refine RT_el (n_ne d0 (by omega) (by decide)) ?_
              refine RT_step (pc2 := 145) rfl (fun _ _ => rfl) ?_
              refine rt_bip rfl k8_60 ?_
              refine RT_step rfl (fun _ _ => rfl) ?_
              refine RT_el (n_ne d1 (by omega) (by decide)) ?_
              refine RT_step (pc2 := 151) rfl (fun _ _ => rfl) ?_
              refine rt_bip rfl k8_61 ?_
              refine RT_step rfl (fun _ _ => rfl) ?_
              refine RT_el (n_ne d2 (by omega) (by decide)) ?_
              refine RT_step (pc2 := 157) rfl (fun _ _ => rfl) ?_
              refine rt_bip rfl k8_62 ?_
              refine RT_step rfl (fun _ _ => rfl) ?_
              refine RT_if (n_eq d3) ?_
              refine rt_ico rfl ki_4 ?_
              refine RT_step (pc2 := 179) rfl (fun _ _ => rfl) ?_
              refine ow_pf rfl rfl rfl rfl rfl hlen rfl rfl ?_
              refine RT_step (pc2 := 183) rfl (fun _ _ => rfl) ?_
              refine RT_step (pc2 := 184) rfl (fun _ _ => rfl) ?_
              refine ow_pf rfl rfl rfl rfl rfl hlen rfl rfl ?_
              refine RT_step (pc2 := 188) rfl (fun _ _ => rfl) ?_
              refine RT_step (pc2 := 189) rfl (fun _ _ => rfl) ?_
              refine ow_gf rfl rfl rfl hlen rfl ?_
              refine rt_ico rfl ki_1 ?_
              refine RT_step (pc2 := 194) rfl (fun _ _ => rfl) ?_
              rw [n_add]
              refine ow_pf rfl rfl rfl rfl rfl hlen rfl rfl ?_
              exact ow_ret rfl rfl rfl
            · by_cases d4 : B s = 40
              · rw [show isMk (B s) = true from by rw [d4]; rfl]
                refine RT_step (pc2 := 114) rfl (fun _ _ => rfl) ?_
                refine ow_gf rfl rfl rfl hlen rfl ?_
                refine RT_step (pc2 := 118) rfl (fun _ _ => rfl) ?_
                refine ow_gf rfl rfl rfl hlen rfl ?_
                refine ow_ial rfl rfl (m_rd hM (by omega)) hlen rfl ?_
                refine RT_step (pc2 := 123) rfl (fun _ _ => rfl) ?_
                refine RT_step (pc2 := 124) rfl (fun _ _ => rfl) ?_
                refine ow_is rfl rfl rfl rfl rfl ((m_isLetter hb).up (Nat.le_refl 1)) rfl ?_
                refine RT_step rfl (fun _ _ => rfl) ?_
                refine RT_if (b01_f c1) ?_
                refine RT_step (pc2 := 131) rfl (fun _ _ => rfl) ?_
                refine ow_is rfl rfl rfl rfl rfl ((m_isDigit hb).up (Nat.le_refl 1)) rfl ?_
                refine RT_step rfl (fun _ _ => rfl) ?_
                refine RT_if (b01_f c2) ?_
                refine RT_step (pc2 := 138) rfl (fun _ _ => rfl) ?_
                refine RT_step (pc2 := 139) rfl (fun _ _ => rfl) ?_
                refine rt_bip rfl k8_59 ?_
                refine RT_step rfl (fun _ _ => rfl) ?_
                refine RT_el (n_ne d0 (by omega) (by decide)) ?_
                refine RT_step (pc2 := 145) rfl (fun _ _ => rfl) ?_
                refine rt_bip rfl k8_60 ?_
                refine RT_step rfl (fun _ _ => rfl) ?_
                refine RT_el (n_ne d1 (by omega) (by decide)) ?_
                refine RT_step (pc2 := 151) rfl (fun _ _ => rfl) ?_
                refine rt_bip rfl k8_61 ?_
                refine RT_step rfl (fun _ _ => rfl) ?_
                refine RT_el (n_ne d2 (by omega) (by decide)) ?_
                refine RT_step (pc2 := 157) rfl (fun _ _ => rfl) ?_
                refine rt_bip rfl k8_62 ?_
                refine RT_step rfl (fun _ _ => rfl) ?_
                refine RT_el (n_ne d3 (by omega) (by decide)) ?_
                refine RT_step (pc2 := 163) rfl (fun _ _ => rfl) ?_
                refine rt_bip rfl k8_40 ?_
                refine RT_step rfl (fun _ _ => rfl) ?_
                refine RT_if (n_eq d4) ?_
                refine rt_ico rfl ki_4 ?_
                refine RT_step (pc2 := 179) rfl (fun _ _ => rfl) ?_
                refine ow_pf rfl rfl rfl rfl rfl hlen rfl rfl ?_
                refine RT_step (pc2 := 183) rfl (fun _ _ => rfl) ?_
                refine RT_step (pc2 := 184) rfl (fun _ _ => rfl) ?_
                refine ow_pf rfl rfl rfl rfl rfl hlen rfl rfl ?_
                refine RT_step (pc2 := 188) rfl (fun _ _ => rfl) ?_
                refine RT_step (pc2 := 189) rfl (fun _ _ => rfl) ?_
                refine ow_gf rfl rfl rfl hlen rfl ?_
                refine rt_ico rfl ki_1 ?_
                refine RT_step (pc2 := 194) rfl (fun _ _ => rfl) ?_
                rw [n_add]
                refine ow_pf rfl rfl rfl rfl rfl hlen rfl rfl ?_
                exact ow_ret rfl rfl rfl
              · by_cases d5 : B s = 41
                · rw [show isMk (B s) = true from by rw [d5]; rfl]
                  refine RT_step (pc2 := 114) rfl (fun _ _ => rfl) ?_
                  refine ow_gf rfl rfl rfl hlen rfl ?_
                  refine RT_step (pc2 := 118) rfl (fun _ _ => rfl) ?_
                  refine ow_gf rfl rfl rfl hlen rfl ?_
                  refine ow_ial rfl rfl (m_rd hM (by omega)) hlen rfl ?_
                  refine RT_step (pc2 := 123) rfl (fun _ _ => rfl) ?_
                  refine RT_step (pc2 := 124) rfl (fun _ _ => rfl) ?_
                  refine ow_is rfl rfl rfl rfl rfl ((m_isLetter hb).up (Nat.le_refl 1)) rfl ?_
                  refine RT_step rfl (fun _ _ => rfl) ?_
                  refine RT_if (b01_f c1) ?_
                  refine RT_step (pc2 := 131) rfl (fun _ _ => rfl) ?_
                  refine ow_is rfl rfl rfl rfl rfl ((m_isDigit hb).up (Nat.le_refl 1)) rfl ?_
                  refine RT_step rfl (fun _ _ => rfl) ?_
                  refine RT_if (b01_f c2) ?_
                  refine RT_step (pc2 := 138) rfl (fun _ _ => rfl) ?_
                  refine RT_step (pc2 := 139) rfl (fun _ _ => rfl) ?_
                  refine rt_bip rfl k8_59 ?_
                  refine RT_step rfl (fun _ _ => rfl) ?_
                  refine RT_el (n_ne d0 (by omega) (by decide)) ?_
                  refine RT_step (pc2 := 145) rfl (fun _ _ => rfl) ?_
                  refine rt_bip rfl k8_60 ?_
                  refine RT_step rfl (fun _ _ => rfl) ?_
                  refine RT_el (n_ne d1 (by omega) (by decide)) ?_
                  refine RT_step (pc2 := 151) rfl (fun _ _ => rfl) ?_
                  refine rt_bip rfl k8_61 ?_
                  refine RT_step rfl (fun _ _ => rfl) ?_
                  refine RT_el (n_ne d2 (by omega) (by decide)) ?_
                  refine RT_step (pc2 := 157) rfl (fun _ _ => rfl) ?_
                  refine rt_bip rfl k8_62 ?_
                  refine RT_step rfl (fun _ _ => rfl) ?_
                  refine RT_el (n_ne d3 (by omega) (by decide)) ?_
                  refine RT_step (pc2 := 163) rfl (fun _ _ => rfl) ?_
                  refine rt_bip rfl k8_40 ?_
                  refine RT_step rfl (fun _ _ => rfl) ?_
                  refine RT_el (n_ne d4 (by omega) (by decide)) ?_
                  refine RT_step (pc2 := 169) rfl (fun _ _ => rfl) ?_
                  refine rt_bip rfl k8_41 ?_
                  refine RT_step rfl (fun _ _ => rfl) ?_
                  refine RT_if (n_eq d5) ?_
                  refine rt_ico rfl ki_4 ?_
                  refine RT_step (pc2 := 179) rfl (fun _ _ => rfl) ?_
                  refine ow_pf rfl rfl rfl rfl rfl hlen rfl rfl ?_
                  refine RT_step (pc2 := 183) rfl (fun _ _ => rfl) ?_
                  refine RT_step (pc2 := 184) rfl (fun _ _ => rfl) ?_
                  refine ow_pf rfl rfl rfl rfl rfl hlen rfl rfl ?_
                  refine RT_step (pc2 := 188) rfl (fun _ _ => rfl) ?_
                  refine RT_step (pc2 := 189) rfl (fun _ _ => rfl) ?_
                  refine ow_gf rfl rfl rfl hlen rfl ?_
                  refine rt_ico rfl ki_1 ?_
                  refine RT_step (pc2 := 194) rfl (fun _ _ => rfl) ?_
                  rw [n_add]
                  refine ow_pf rfl rfl rfl rfl rfl hlen rfl rfl ?_
                  exact ow_ret rfl rfl rfl
                · rw [show isMk (B s) = false from by simp [isMk, nbqf, *]]
                  refine RT_step (pc2 := 114) rfl (fun _ _ => rfl) ?_
                  refine ow_gf rfl rfl rfl hlen rfl ?_
                  refine RT_step (pc2 := 118) rfl (fun _ _ => rfl) ?_
                  refine ow_gf rfl rfl rfl hlen rfl ?_
                  refine ow_ial rfl rfl (m_rd hM (by omega)) hlen rfl ?_
                  refine RT_step (pc2 := 123) rfl (fun _ _ => rfl) ?_
                  refine RT_step (pc2 := 124) rfl (fun _ _ => rfl) ?_
                  refine ow_is rfl rfl rfl rfl rfl ((m_isLetter hb).up (Nat.le_refl 1)) rfl ?_
                  refine RT_step rfl (fun _ _ => rfl) ?_
                  refine RT_if (b01_f c1) ?_
                  refine RT_step (pc2 := 131) rfl (fun _ _ => rfl) ?_
                  refine ow_is rfl rfl rfl rfl rfl ((m_isDigit hb).up (Nat.le_refl 1)) rfl ?_
                  refine RT_step rfl (fun _ _ => rfl) ?_
                  refine RT_if (b01_f c2) ?_
                  refine RT_step (pc2 := 138) rfl (fun _ _ => rfl) ?_
                  refine RT_step (pc2 := 139) rfl (fun _ _ => rfl) ?_
                  refine rt_bip rfl k8_59 ?_
                  refine RT_step rfl (fun _ _ => rfl) ?_
                  refine RT_el (n_ne d0 (by omega) (by decide)) ?_
                  refine RT_step (pc2 := 145) rfl (fun _ _ => rfl) ?_
                  refine rt_bip rfl k8_60 ?_
                  refine RT_step rfl (fun _ _ => rfl) ?_
                  refine RT_el (n_ne d1 (by omega) (by decide)) ?_
                  refine RT_step (pc2 := 151) rfl (fun _ _ => rfl) ?_
                  refine rt_bip rfl k8_61 ?_
                  refine RT_step rfl (fun _ _ => rfl) ?_
                  refine RT_el (n_ne d2 (by omega) (by decide)) ?_
                  refine RT_step (pc2 := 157) rfl (fun _ _ => rfl) ?_
                  refine rt_bip rfl k8_62 ?_
                  refine RT_step rfl (fun _ _ => rfl) ?_
                  refine RT_el (n_ne d3 (by omega) (by decide)) ?_
                  refine RT_step (pc2 := 163) rfl (fun _ _ => rfl) ?_
                  refine rt_bip rfl k8_40 ?_
                  refine RT_step rfl (fun _ _ => rfl) ?_
                  refine RT_el (n_ne d4 (by omega) (by decide)) ?_
                  refine RT_step (pc2 := 169) rfl (fun _ _ => rfl) ?_
                  refine rt_bip rfl k8_41 ?_
                  refine RT_step rfl (fun _ _ => rfl) ?_
                  refine RT_el (n_ne d5 (by omega) (by decide)) ?_
                  refine rt_ico rfl ki_1 ?_
                  refine ow_pf rfl rfl rfl rfl rfl hlen rfl rfl ?_
                  refine RT_step (pc2 := 183) rfl (fun _ _ => rfl) ?_
                  refine RT_step (pc2 := 184) rfl (fun _ _ => rfl) ?_
                  refine ow_pf rfl rfl rfl rfl rfl hlen rfl rfl ?_
                  refine RT_step (pc2 := 188) rfl (fun _ _ => rfl) ?_
                  refine RT_step (pc2 := 189) rfl (fun _ _ => rfl) ?_
                  refine ow_gf rfl rfl rfl hlen rfl ?_
                  refine rt_ico rfl ki_1 ?_
                  refine RT_step (pc2 := 194) rfl (fun _ _ => rfl) ?_
                  rw [n_add]
                  refine ow_pf rfl rfl rfl rfl rfl hlen rfl rfl ?_
                  exact ow_ret rfl rfl rfl
theorem m_go {H : List AE} {ts : List Int32} {B : Nat → Nat} (hM : MY ts B) (hlen : Nat.ble 204 H.length = true) {p0 p2 nu sg fa pl td : Int32} {sz lim fr kd : Nat} {wd : Int64} {po : List Value} {a : Nat} (h1 : H[180]? = some (mcl p0 p2 sz lim a fr kd nu sg fa pl wd td po)) (h2 : H[181]? = some (mtl ts)) (ha : a ≤ sz) (hs : sz ≤ 940) (hl : lim ≤ 940) : FR 2 205 [.ref 180] H (none, ov H [(180, mcl p0 p2 sz lim (goV B sz lim a nu sg wd).1 (goV B sz lim a nu sg wd).2.1 (goV B sz lim a nu sg wd).2.2.1 (goV B sz lim a nu sg wd).2.2.2.1 (goV B sz lim a nu sg wd).2.2.2.2.1 fa pl (goV B sz lim a nu sg wd).2.2.2.2.2 td po)]) := by
  have hk := skp_le B (sz - a) a
  refine FR_ov (l := [(180, mcl p0 p2 sz lim a fr kd nu sg fa pl wd td po), (181, mtl ts)]) (l2 := [(180, mcl p0 p2 sz lim (goV B sz lim a nu sg wd).1 (goV B sz lim a nu sg wd).2.1 (goV B sz lim a nu sg wd).2.2.1 (goV B sz lim a nu sg wd).2.2.2.1 (goV B sz lim a nu sg wd).2.2.2.2.1 fa pl (goV B sz lim a nu sg wd).2.2.2.2.2 td po), (181, mtl ts)]) (ov_id h1 (ov_c1 h2)) rfl (ov_2 h2) ?_
  refine m_skip hM hlen hs (sz - a) a (by omega) ?_
  generalize hsk : skp B (sz - a) a = s at hk ⊢
  by_cases c0 : lim < sz
  · by_cases c1 : lim ≤ s
    · rw [show goV B sz lim a nu sg wd = (s, lim, 1, nu, sg, wd) from by unfold goV; rw [hsk, if_pos ⟨c0, c1⟩]]
      refine RT_step (pc2 := 53) rfl (fun _ _ => rfl) ?_
      refine RT_step (pc2 := 54) rfl (fun _ _ => rfl) ?_
      refine ow_gf rfl rfl rfl hlen rfl ?_
      refine ow_pf rfl rfl rfl rfl rfl hlen rfl rfl ?_
      refine RT_step (pc2 := 61) rfl (fun _ _ => rfl) ?_
      refine ow_gf rfl rfl rfl hlen rfl ?_
      refine RT_step (pc2 := 65) rfl (fun _ _ => rfl) ?_
      refine ow_gf rfl rfl rfl hlen rfl ?_
      refine RT_step rfl (fun _ _ => rfl) ?_
      refine RT_el (n_nle c0 (by omega)) ?_
      refine RT_step (pc2 := 72) rfl (fun _ _ => rfl) ?_
      refine ow_gf rfl rfl rfl hlen rfl ?_
      refine RT_step (pc2 := 76) rfl (fun _ _ => rfl) ?_
      refine ow_gf rfl rfl rfl hlen rfl ?_
      refine RT_step rfl (fun _ _ => rfl) ?_
      refine RT_el (n_nlt c1 (by omega)) ?_
      refine RT_step (pc2 := 83) rfl (fun _ _ => rfl) ?_
      refine RT_step (pc2 := 84) rfl (fun _ _ => rfl) ?_
      refine ow_gf rfl rfl rfl hlen rfl ?_
      refine ow_pf rfl rfl rfl rfl rfl hlen rfl rfl ?_
      refine RT_step (pc2 := 91) rfl (fun _ _ => rfl) ?_
      refine rt_ico rfl ki_1 ?_
      refine ow_pf rfl rfl rfl rfl rfl hlen rfl rfl ?_
      exact ow_ret rfl rfl rfl
    · by_cases c3 : sz ≤ s
      · rw [show goV B sz lim a nu sg wd = (s, s, 0, nu, sg, wd) from by unfold goV; rw [hsk, if_neg (fun e => c1 e.2), if_pos c3]]
        refine RT_step (pc2 := 53) rfl (fun _ _ => rfl) ?_
        refine RT_step (pc2 := 54) rfl (fun _ _ => rfl) ?_
        refine ow_gf rfl rfl rfl hlen rfl ?_
        refine ow_pf rfl rfl rfl rfl rfl hlen rfl rfl ?_
        refine RT_step (pc2 := 61) rfl (fun _ _ => rfl) ?_
        refine ow_gf rfl rfl rfl hlen rfl ?_
        refine RT_step (pc2 := 65) rfl (fun _ _ => rfl) ?_
        refine ow_gf rfl rfl rfl hlen rfl ?_
        refine RT_step rfl (fun _ _ => rfl) ?_
        refine RT_el (n_nle c0 (by omega)) ?_
        refine RT_step (pc2 := 72) rfl (fun _ _ => rfl) ?_
        refine ow_gf rfl rfl rfl hlen rfl ?_
        refine RT_step (pc2 := 76) rfl (fun _ _ => rfl) ?_
        refine ow_gf rfl rfl rfl hlen rfl ?_
        refine RT_step rfl (fun _ _ => rfl) ?_
        refine RT_if (n_lt (by omega) (by omega)) ?_
        refine RT_step (pc2 := 97) rfl (fun _ _ => rfl) ?_
        refine ow_gf rfl rfl rfl hlen rfl ?_
        refine RT_step (pc2 := 101) rfl (fun _ _ => rfl) ?_
        refine ow_gf rfl rfl rfl hlen rfl ?_
        refine RT_step rfl (fun _ _ => rfl) ?_
        refine RT_el (n_nlt c3 (by omega)) ?_
        refine RT_step (pc2 := 108) rfl (fun _ _ => rfl) ?_
        refine rt_ico rfl ki_0 ?_
        refine ow_pf rfl rfl rfl rfl rfl hlen rfl rfl ?_
        exact ow_ret rfl rfl rfl
      · exact m_goR (s := s) (nu := nu) (sg := sg) (wd := wd) (kd := kd) (lim := lim) hM hlen hs (by omega) (by omega) (by unfold goV; rw [hsk, if_neg (fun e => c1 e.2), if_neg c3]) (fun h => by
          refine RT_step (pc2 := 53) rfl (fun _ _ => rfl) ?_
          refine RT_step (pc2 := 54) rfl (fun _ _ => rfl) ?_
          refine ow_gf rfl rfl rfl hlen rfl ?_
          refine ow_pf rfl rfl rfl rfl rfl hlen rfl rfl ?_
          refine RT_step (pc2 := 61) rfl (fun _ _ => rfl) ?_
          refine ow_gf rfl rfl rfl hlen rfl ?_
          refine RT_step (pc2 := 65) rfl (fun _ _ => rfl) ?_
          refine ow_gf rfl rfl rfl hlen rfl ?_
          refine RT_step rfl (fun _ _ => rfl) ?_
          refine RT_el (n_nle c0 (by omega)) ?_
          refine RT_step (pc2 := 72) rfl (fun _ _ => rfl) ?_
          refine ow_gf rfl rfl rfl hlen rfl ?_
          refine RT_step (pc2 := 76) rfl (fun _ _ => rfl) ?_
          refine ow_gf rfl rfl rfl hlen rfl ?_
          refine RT_step rfl (fun _ _ => rfl) ?_
          refine RT_if (n_lt (by omega) (by omega)) ?_
          refine RT_step (pc2 := 97) rfl (fun _ _ => rfl) ?_
          refine ow_gf rfl rfl rfl hlen rfl ?_
          refine RT_step (pc2 := 101) rfl (fun _ _ => rfl) ?_
          refine ow_gf rfl rfl rfl hlen rfl ?_
          refine RT_step rfl (fun _ _ => rfl) ?_
          refine RT_if (n_lt (by omega) (by omega)) ?_
          exact h)
  · by_cases c3 : sz ≤ s
    · rw [show goV B sz lim a nu sg wd = (s, s, 0, nu, sg, wd) from by unfold goV; rw [hsk, if_neg (fun e => c0 e.1), if_pos c3]]
      refine RT_step (pc2 := 53) rfl (fun _ _ => rfl) ?_
      refine RT_step (pc2 := 54) rfl (fun _ _ => rfl) ?_
      refine ow_gf rfl rfl rfl hlen rfl ?_
      refine ow_pf rfl rfl rfl rfl rfl hlen rfl rfl ?_
      refine RT_step (pc2 := 61) rfl (fun _ _ => rfl) ?_
      refine ow_gf rfl rfl rfl hlen rfl ?_
      refine RT_step (pc2 := 65) rfl (fun _ _ => rfl) ?_
      refine ow_gf rfl rfl rfl hlen rfl ?_
      refine RT_step rfl (fun _ _ => rfl) ?_
      refine RT_if (n_le (by omega) (by omega)) ?_
      refine RT_step (pc2 := 97) rfl (fun _ _ => rfl) ?_
      refine ow_gf rfl rfl rfl hlen rfl ?_
      refine RT_step (pc2 := 101) rfl (fun _ _ => rfl) ?_
      refine ow_gf rfl rfl rfl hlen rfl ?_
      refine RT_step rfl (fun _ _ => rfl) ?_
      refine RT_el (n_nlt c3 (by omega)) ?_
      refine RT_step (pc2 := 108) rfl (fun _ _ => rfl) ?_
      refine rt_ico rfl ki_0 ?_
      refine ow_pf rfl rfl rfl rfl rfl hlen rfl rfl ?_
      exact ow_ret rfl rfl rfl
    · exact m_goR (s := s) (nu := nu) (sg := sg) (wd := wd) (kd := kd) (lim := lim) hM hlen hs (by omega) (by omega) (by unfold goV; rw [hsk, if_neg (fun e => c0 e.1), if_neg c3]) (fun h => by
        refine RT_step (pc2 := 53) rfl (fun _ _ => rfl) ?_
        refine RT_step (pc2 := 54) rfl (fun _ _ => rfl) ?_
        refine ow_gf rfl rfl rfl hlen rfl ?_
        refine ow_pf rfl rfl rfl rfl rfl hlen rfl rfl ?_
        refine RT_step (pc2 := 61) rfl (fun _ _ => rfl) ?_
        refine ow_gf rfl rfl rfl hlen rfl ?_
        refine RT_step (pc2 := 65) rfl (fun _ _ => rfl) ?_
        refine ow_gf rfl rfl rfl hlen rfl ?_
        refine RT_step rfl (fun _ _ => rfl) ?_
        refine RT_if (n_le (by omega) (by omega)) ?_
        refine RT_step (pc2 := 97) rfl (fun _ _ => rfl) ?_
        refine ow_gf rfl rfl rfl hlen rfl ?_
        refine RT_step (pc2 := 101) rfl (fun _ _ => rfl) ?_
        refine ow_gf rfl rfl rfl hlen rfl ?_
        refine RT_step rfl (fun _ _ => rfl) ?_
        refine RT_if (n_lt (by omega) (by omega)) ?_
        exact h)
