/-! ===== marks, numbers, names looked up ===== -/
theorem x_isMarkHere {H : List AE} (hlen : Nat.ble 204 H.length = true) {n lim kd pl w : Nat} {le : Int64} {nu tk fa fp : Int32} {a : Nat} (h1 : H[1]? = some (tcl n lim a kd pl w le nu tk fa fp)) (hk : kd < 10) {c s : Nat} (hc : c < 256) (hs : s < 256) (hsg : kd = 3 → nu = Int32.ofNat s) : FR 1 160 [.ref 1, .int (Int32.ofNat c)] H (some (.int (b01 (Nat.beq kd 3 && Nat.beq s c))), ov H []) := by
  refine FR_ov (l := [(1, tcl n lim a kd pl w le nu tk fa fp)]) (ov_c1 h1) rfl (ov_c1 h1) ?_
  by_cases c1 : kd = 3
  · have hsg := hsg c1
    subst hsg
    by_cases c2 : s = c
    · rw [show (Nat.beq kd 3 && Nat.beq s c) = true from by rw [c1, c2, Nat.beq_refl, Nat.beq_refl]; rfl]
      refine RT_step (pc2 := 1) rfl (fun _ _ => rfl) ?_
      refine ow_gf rfl rfl rfl hlen rfl ?_
      refine rt_ico rfl ki_3 ?_
      refine RT_step rfl (fun _ _ => rfl) ?_
      refine RT_if (n_eq c1) ?_
      refine RT_step (pc2 := 9) rfl (fun _ _ => rfl) ?_
      refine ow_gf rfl rfl rfl hlen rfl ?_
      refine RT_step (pc2 := 13) rfl (fun _ _ => rfl) ?_
      refine RT_step rfl (fun _ _ => rfl) ?_
      refine RT_if (n_eq c2) ?_
      refine rt_ico rfl ki_1 ?_
      refine RT_step (pc2 := 21) rfl (fun _ _ => rfl) ?_
      exact ow_irt rfl rfl rfl
    · rw [show (Nat.beq kd 3 && Nat.beq s c) = false from by rw [nbqf c2, Bool.and_false]]
      refine RT_step (pc2 := 1) rfl (fun _ _ => rfl) ?_
      refine ow_gf rfl rfl rfl hlen rfl ?_
      refine rt_ico rfl ki_3 ?_
      refine RT_step rfl (fun _ _ => rfl) ?_
      refine RT_if (n_eq c1) ?_
      refine RT_step (pc2 := 9) rfl (fun _ _ => rfl) ?_
      refine ow_gf rfl rfl rfl hlen rfl ?_
      refine RT_step (pc2 := 13) rfl (fun _ _ => rfl) ?_
      refine RT_step rfl (fun _ _ => rfl) ?_
      refine RT_el (n_ne c2 (by omega) (by omega)) ?_
      refine rt_ico rfl ki_0 ?_
      exact ow_irt rfl rfl rfl
  · rw [show (Nat.beq kd 3 && Nat.beq s c) = false from by rw [nbqf c1]; rfl]
    refine RT_step (pc2 := 1) rfl (fun _ _ => rfl) ?_
    refine ow_gf rfl rfl rfl hlen rfl ?_
    refine rt_ico rfl ki_3 ?_
    refine RT_step rfl (fun _ _ => rfl) ?_
    refine RT_el (n_ne c1 (by omega) (by decide)) ?_
    refine rt_ico rfl ki_0 ?_
    exact ow_irt rfl rfl rfl
theorem x_takesMark_f {H : List AE} {bs : List Int32} {B : Nat → Nat} (hB : BY bs B) (hlen : Nat.ble 204 H.length = true) {n lim kd pl w : Nat} {le : Int64} {nu tk fa fp : Int32} {a : Nat} (h1 : H[1]? = some (tcl n lim a kd pl w le nu tk fa fp)) (h2 : H[2]? = some (bcl bs)) (ha : a ≤ n) (hn : n ≤ 940) (hl : lim ≤ 940) (hk : kd < 10) {c s : Nat} (hc : c < 256) (hs : s < 256) (hsg : kd = 3 → nu = Int32.ofNat s) (hf : (Nat.beq kd 3 && Nat.beq s c) = false) : FR 4 167 [.ref 1, .int (Int32.ofNat c)] H (some (.int (Int32.ofNat 0)), ov H [(1, tcl n lim a kd pl w le nu tk (Int32.ofNat 1) (Int32.ofNat pl))]) := by
  refine FR_ov (l := [(1, tcl n lim a kd pl w le nu tk fa fp), (2, bcl bs)]) (l2 := [(1, tcl n lim a kd pl w le nu tk (Int32.ofNat 1) (Int32.ofNat pl)), (2, bcl bs)]) (ov_id h1 (ov_c1 h2)) rfl (ov_2 h2) ?_
  refine RT_step (pc2 := 1) rfl (fun _ _ => rfl) ?_
  refine RT_step (pc2 := 2) rfl (fun _ _ => rfl) ?_
  refine ow_iv rfl rfl rfl rfl hlen rfl rfl rfl ((x_isMarkHere (ov_hl hlen) (ov_at rfl (ov_lt hlen (by decide))) hk hc hs hsg).up (by decide)) rfl ?_
  refine RT_step rfl (fun _ _ => rfl) ?_
  refine RT_if (b01_f hf) ?_
  refine RT_step (pc2 := 9) rfl (fun _ _ => rfl) ?_
  refine rt_ico rfl ki_1 ?_
  refine ow_iv rfl rfl rfl rfl hlen rfl rfl rfl ((x_refuse (ov_hl hlen) (ov_at rfl (ov_lt hlen (by decide)))).up (by decide)) rfl ?_
  exact ow_irt rfl rfl rfl
theorem x_takesMark_t {H : List AE} {bs : List Int32} {B : Nat → Nat} (hB : BY bs B) (hlen : Nat.ble 204 H.length = true) {n lim kd pl w : Nat} {le : Int64} {nu tk fa fp : Int32} {a : Nat} (h1 : H[1]? = some (tcl n lim a kd pl w le nu tk fa fp)) (h2 : H[2]? = some (bcl bs)) (ha : a ≤ n) (hn : n ≤ 940) (hl : lim ≤ 940) (hk : kd < 10) {c s : Nat} (hc : c < 256) (hs : s < 256) (hsg : kd = 3 → nu = Int32.ofNat s) (hf : (Nat.beq kd 3 && Nat.beq s c) = true) : FR 4 167 [.ref 1, .int (Int32.ofNat c)] H (some (.int (Int32.ofNat 1)), ov H [(1, advC B n lim a tk fa fp)]) := by
  refine FR_ov (l := [(1, tcl n lim a kd pl w le nu tk fa fp), (2, bcl bs)]) (l2 := [(1, advC B n lim a tk fa fp), (2, bcl bs)]) (ov_id h1 (ov_c1 h2)) rfl (ov_2 h2) ?_
  refine RT_step (pc2 := 1) rfl (fun _ _ => rfl) ?_
  refine RT_step (pc2 := 2) rfl (fun _ _ => rfl) ?_
  refine ow_iv rfl rfl rfl rfl hlen rfl rfl rfl ((x_isMarkHere (ov_hl hlen) (ov_at rfl (ov_lt hlen (by decide))) hk hc hs hsg).up (by decide)) rfl ?_
  refine RT_step rfl (fun _ _ => rfl) ?_
  refine RT_el (b01_t hf) ?_
  refine RT_step (pc2 := 15) rfl (fun _ _ => rfl) ?_
  refine ow_iv rfl rfl rfl rfl hlen rfl rfl rfl ((x_adv hB (ov_hl hlen) (ov_at rfl (ov_lt hlen (by decide))) (ov_at rfl (ov_lt hlen (by decide))) ha hn hl).up (by decide)) rfl ?_
  refine rt_ico rfl ki_1 ?_
  exact ow_irt rfl rfl rfl
theorem x_takesNumber_1 {H : List AE} {bs : List Int32} {B : Nat → Nat} (hB : BY bs B) (hlen : Nat.ble 204 H.length = true) {n lim kd pl w : Nat} {le : Int64} {nu tk fa fp : Int32} {a : Nat} (h1 : H[1]? = some (tcl n lim a kd pl w le nu tk fa fp)) (h2 : H[2]? = some (bcl bs)) (ha : a ≤ n) (hn : n ≤ 940) (hl : lim ≤ 940) (hk : kd < 10) {lo hi : Int32} (c1 : ¬ kd = 2) : FR 4 168 [.ref 1, .int lo, .int hi] H (some (.int (Int32.ofNat 0)), ov H [(1, tcl n lim a kd pl w le nu tk (Int32.ofNat 1) (Int32.ofNat pl))]) := by
  refine FR_ov (l := [(1, tcl n lim a kd pl w le nu tk fa fp), (2, bcl bs)]) (l2 := [(1, tcl n lim a kd pl w le nu tk (Int32.ofNat 1) (Int32.ofNat pl)), (2, bcl bs)]) (ov_id h1 (ov_c1 h2)) rfl (ov_2 h2) ?_
  refine RT_step (pc2 := 1) rfl (fun _ _ => rfl) ?_
  refine ow_gf rfl rfl rfl hlen rfl ?_
  refine rt_ico rfl ki_2 ?_
  refine RT_step rfl (fun _ _ => rfl) ?_
  refine RT_el (n_ne c1 (by omega) (by decide)) ?_
  refine RT_step (pc2 := 9) rfl (fun _ _ => rfl) ?_
  refine rt_ico rfl ki_1 ?_
  refine ow_iv rfl rfl rfl rfl hlen rfl rfl rfl ((x_refuse (ov_hl hlen) (ov_at rfl (ov_lt hlen (by decide)))).up (by decide)) rfl ?_
  exact ow_irt rfl rfl rfl
theorem x_takesNumber_2 {H : List AE} {bs : List Int32} {B : Nat → Nat} (hB : BY bs B) (hlen : Nat.ble 204 H.length = true) {n lim kd pl w : Nat} {le : Int64} {nu tk fa fp : Int32} {a : Nat} (h1 : H[1]? = some (tcl n lim a kd pl w le nu tk fa fp)) (h2 : H[2]? = some (bcl bs)) (ha : a ≤ n) (hn : n ≤ 940) (hl : lim ≤ 940) (hk : kd < 10) {lo hi v : Nat} (hlo : lo < 2000) (hhi : hi < 2000) (hv : v < 2000) (c1 : kd = 2) (c2 : nu = Int32.ofNat v) (c3 : v < lo ∨ hi < v) : FR 4 168 [.ref 1, .int (Int32.ofNat lo), .int (Int32.ofNat hi)] H (some (.int (Int32.ofNat 0)), ov H [(1, tcl n lim a kd pl w le nu tk (Int32.ofNat 2) (Int32.ofNat pl))]) := by
  subst c2
  refine FR_ov (l := [(1, tcl n lim a kd pl w le (Int32.ofNat v) tk fa fp), (2, bcl bs)]) (l2 := [(1, tcl n lim a kd pl w le (Int32.ofNat v) tk (Int32.ofNat 2) (Int32.ofNat pl)), (2, bcl bs)]) (ov_id h1 (ov_c1 h2)) rfl (ov_2 h2) ?_
  by_cases c4 : v < lo
  · refine RT_step (pc2 := 1) rfl (fun _ _ => rfl) ?_
    refine ow_gf rfl rfl rfl hlen rfl ?_
    refine rt_ico rfl ki_2 ?_
    refine RT_step rfl (fun _ _ => rfl) ?_
    refine RT_if (n_eq c1) ?_
    refine RT_step (pc2 := 15) rfl (fun _ _ => rfl) ?_
    refine ow_gf rfl rfl rfl hlen rfl ?_
    refine RT_step (pc2 := 19) rfl (fun _ _ => rfl) ?_
    refine RT_step rfl (fun _ _ => rfl) ?_
    refine RT_if (n_lt c4 (by omega)) ?_
    refine RT_step (pc2 := 31) rfl (fun _ _ => rfl) ?_
    refine rt_ico rfl ki_2 ?_
    refine ow_iv rfl rfl rfl rfl hlen rfl rfl rfl ((x_refuse (ov_hl hlen) (ov_at rfl (ov_lt hlen (by decide)))).up (by decide)) rfl ?_
    exact ow_irt rfl rfl rfl
  · refine RT_step (pc2 := 1) rfl (fun _ _ => rfl) ?_
    refine ow_gf rfl rfl rfl hlen rfl ?_
    refine rt_ico rfl ki_2 ?_
    refine RT_step rfl (fun _ _ => rfl) ?_
    refine RT_if (n_eq c1) ?_
    refine RT_step (pc2 := 15) rfl (fun _ _ => rfl) ?_
    refine ow_gf rfl rfl rfl hlen rfl ?_
    refine RT_step (pc2 := 19) rfl (fun _ _ => rfl) ?_
    refine RT_step rfl (fun _ _ => rfl) ?_
    refine RT_el (n_nlt (by omega) (by omega)) ?_
    refine RT_step (pc2 := 23) rfl (fun _ _ => rfl) ?_
    refine ow_gf rfl rfl rfl hlen rfl ?_
    refine RT_step (pc2 := 27) rfl (fun _ _ => rfl) ?_
    refine RT_step rfl (fun _ _ => rfl) ?_
    refine RT_el (n_nle (by omega) (by omega)) ?_
    refine RT_step (pc2 := 31) rfl (fun _ _ => rfl) ?_
    refine rt_ico rfl ki_2 ?_
    refine ow_iv rfl rfl rfl rfl hlen rfl rfl rfl ((x_refuse (ov_hl hlen) (ov_at rfl (ov_lt hlen (by decide)))).up (by decide)) rfl ?_
    exact ow_irt rfl rfl rfl
theorem x_takesNumber_t {H : List AE} {bs : List Int32} {B : Nat → Nat} (hB : BY bs B) (hlen : Nat.ble 204 H.length = true) {n lim kd pl w : Nat} {le : Int64} {nu tk fa fp : Int32} {a : Nat} (h1 : H[1]? = some (tcl n lim a kd pl w le nu tk fa fp)) (h2 : H[2]? = some (bcl bs)) (ha : a ≤ n) (hn : n ≤ 940) (hl : lim ≤ 940) (hk : kd < 10) {lo hi v : Nat} (hlo : lo < 2000) (hhi : hi < 2000) (hv : v < 2000) (c1 : kd = 2) (c2 : nu = Int32.ofNat v) (c3 : lo ≤ v) (c4 : v ≤ hi) : FR 4 168 [.ref 1, .int (Int32.ofNat lo), .int (Int32.ofNat hi)] H (some (.int (Int32.ofNat 1)), ov H [(1, advC B n lim a (Int32.ofNat v) fa fp)]) := by
  subst c2
  refine FR_ov (l := [(1, tcl n lim a kd pl w le (Int32.ofNat v) tk fa fp), (2, bcl bs)]) (l2 := [(1, advC B n lim a (Int32.ofNat v) fa fp), (2, bcl bs)]) (ov_id h1 (ov_c1 h2)) rfl (ov_2 h2) ?_
  refine RT_step (pc2 := 1) rfl (fun _ _ => rfl) ?_
  refine ow_gf rfl rfl rfl hlen rfl ?_
  refine rt_ico rfl ki_2 ?_
  refine RT_step rfl (fun _ _ => rfl) ?_
  refine RT_if (n_eq c1) ?_
  refine RT_step (pc2 := 15) rfl (fun _ _ => rfl) ?_
  refine ow_gf rfl rfl rfl hlen rfl ?_
  refine RT_step (pc2 := 19) rfl (fun _ _ => rfl) ?_
  refine RT_step rfl (fun _ _ => rfl) ?_
  refine RT_el (n_nlt c3 (by omega)) ?_
  refine RT_step (pc2 := 23) rfl (fun _ _ => rfl) ?_
  refine ow_gf rfl rfl rfl hlen rfl ?_
  refine RT_step (pc2 := 27) rfl (fun _ _ => rfl) ?_
  refine RT_step rfl (fun _ _ => rfl) ?_
  refine RT_if (n_le c4 (by omega)) ?_
  refine RT_step (pc2 := 37) rfl (fun _ _ => rfl) ?_
  refine RT_step (pc2 := 38) rfl (fun _ _ => rfl) ?_
  refine ow_gf rfl rfl rfl hlen rfl ?_
  refine ow_pf rfl rfl rfl rfl rfl hlen rfl rfl ?_
  refine RT_step (pc2 := 45) rfl (fun _ _ => rfl) ?_
  refine ow_iv rfl rfl rfl rfl hlen rfl rfl rfl ((x_adv hB (ov_hl hlen) (ov_at rfl (ov_lt hlen (by decide))) (ov_at rfl (ov_lt hlen (by decide))) ha hn hl).up (by decide)) rfl ?_
  refine rt_ico rfl ki_1 ?_
  exact ow_irt rfl rfl rfl
theorem m_readNumber_1 {H : List AE} {ts : List Int32} {B : Nat → Nat} (hM : MY ts B) (hlen : Nat.ble 204 H.length = true) {p0 p2 nu sg fa pl td : Int32} {sz lim fr kd : Nat} {wd : Int64} {po : List Value} {a : Nat} (h1 : H[180]? = some (mcl p0 p2 sz lim a fr kd nu sg fa pl wd td po)) (h2 : H[181]? = some (mtl ts)) (ha : a ≤ sz) (hs : sz ≤ 940) (hl : lim ≤ 940) (hk : kd < 10) {lo hi : Int32} (c1 : ¬ kd = 3) : FR 3 260 [.ref 180, .int lo, .int hi] H (some (.int (Int32.ofNat 0)), ov H [(180, mcl p0 p2 sz lim a fr kd nu sg (if kd = 1 then Int32.ofNat 1 else Int32.ofNat 1) (Int32.ofNat fr) wd td po)]) := by
  refine FR_ov (l := [(180, mcl p0 p2 sz lim a fr kd nu sg fa pl wd td po), (181, mtl ts)]) (l2 := [(180, mcl p0 p2 sz lim a fr kd nu sg (if kd = 1 then Int32.ofNat 1 else Int32.ofNat 1) (Int32.ofNat fr) wd td po), (181, mtl ts)]) (ov_id h1 (ov_c1 h2)) rfl (ov_2 h2) ?_
  refine RT_step (pc2 := 1) rfl (fun _ _ => rfl) ?_
  refine ow_gf rfl rfl rfl hlen rfl ?_
  refine rt_ico rfl ki_3 ?_
  refine RT_step rfl (fun _ _ => rfl) ?_
  refine RT_el (n_ne c1 (by omega) (by decide)) ?_
  refine RT_step (pc2 := 9) rfl (fun _ _ => rfl) ?_
  refine rt_ico rfl ki_1 ?_
  refine ow_iv rfl rfl rfl rfl hlen rfl rfl rfl ((m_bad (ov_hl hlen) (ov_at rfl (ov_lt hlen (by decide))) hk).up (by decide)) rfl ?_
  exact ow_irt rfl rfl rfl
theorem m_readNumber_2 {H : List AE} {ts : List Int32} {B : Nat → Nat} (hM : MY ts B) (hlen : Nat.ble 204 H.length = true) {p0 p2 nu sg fa pl td : Int32} {sz lim fr kd : Nat} {wd : Int64} {po : List Value} {a : Nat} (h1 : H[180]? = some (mcl p0 p2 sz lim a fr kd nu sg fa pl wd td po)) (h2 : H[181]? = some (mtl ts)) (ha : a ≤ sz) (hs : sz ≤ 940) (hl : lim ≤ 940) (hk : kd < 10) {lo hi v : Nat} (hlo : lo < 2000) (hhi : hi < 2000) (hv : v < 2000) (c1 : kd = 3) (c2 : nu = Int32.ofNat v) (c3 : (Nat.ble lo v && Nat.ble v hi) = false) : FR 3 260 [.ref 180, .int (Int32.ofNat lo), .int (Int32.ofNat hi)] H (some (.int (Int32.ofNat 0)), ov H [(180, mcl p0 p2 sz lim a fr kd nu sg (if kd = 1 then Int32.ofNat 1 else Int32.ofNat 2) (Int32.ofNat fr) wd td po)]) := by
  subst c2
  refine FR_ov (l := [(180, mcl p0 p2 sz lim a fr kd (Int32.ofNat v) sg fa pl wd td po), (181, mtl ts)]) (l2 := [(180, mcl p0 p2 sz lim a fr kd (Int32.ofNat v) sg (if kd = 1 then Int32.ofNat 1 else Int32.ofNat 2) (Int32.ofNat fr) wd td po), (181, mtl ts)]) (ov_id h1 (ov_c1 h2)) rfl (ov_2 h2) ?_
  refine RT_step (pc2 := 1) rfl (fun _ _ => rfl) ?_
  refine ow_gf rfl rfl rfl hlen rfl ?_
  refine rt_ico rfl ki_3 ?_
  refine RT_step rfl (fun _ _ => rfl) ?_
  refine RT_if (n_eq c1) ?_
  refine RT_step (pc2 := 15) rfl (fun _ _ => rfl) ?_
  refine ow_gf rfl rfl rfl hlen rfl ?_
  refine RT_step (pc2 := 19) rfl (fun _ _ => rfl) ?_
  refine RT_step (pc2 := 20) rfl (fun _ _ => rfl) ?_
  refine ow_is rfl rfl rfl rfl rfl ((m_isIn (by omega) (by omega) (by omega)).up (by decide)) rfl ?_
  refine RT_step rfl (fun _ _ => rfl) ?_
  refine RT_if (b01_f c3) ?_
  refine RT_step (pc2 := 27) rfl (fun _ _ => rfl) ?_
  refine rt_ico rfl ki_2 ?_
  refine ow_iv rfl rfl rfl rfl hlen rfl rfl rfl ((m_bad (ov_hl hlen) (ov_at rfl (ov_lt hlen (by decide))) hk).up (by decide)) rfl ?_
  exact ow_irt rfl rfl rfl
theorem m_readNumber_t {H : List AE} {ts : List Int32} {B : Nat → Nat} (hM : MY ts B) (hlen : Nat.ble 204 H.length = true) {p0 p2 nu sg fa pl td : Int32} {sz lim fr kd : Nat} {wd : Int64} {po : List Value} {a : Nat} (h1 : H[180]? = some (mcl p0 p2 sz lim a fr kd nu sg fa pl wd td po)) (h2 : H[181]? = some (mtl ts)) (ha : a ≤ sz) (hs : sz ≤ 940) (hl : lim ≤ 940) (hk : kd < 10) {lo hi v : Nat} (hlo : lo < 2000) (hhi : hi < 2000) (hv : v < 2000) (c1 : kd = 3) (c2 : nu = Int32.ofNat v) (c3 : (Nat.ble lo v && Nat.ble v hi) = true) : FR 3 260 [.ref 180, .int (Int32.ofNat lo), .int (Int32.ofNat hi)] H (some (.int (Int32.ofNat 1)), ov H [(180, mcl p0 p2 sz lim (goV B sz lim a (Int32.ofNat v) sg wd).1 (goV B sz lim a (Int32.ofNat v) sg wd).2.1 (goV B sz lim a (Int32.ofNat v) sg wd).2.2.1 (goV B sz lim a (Int32.ofNat v) sg wd).2.2.2.1 (goV B sz lim a (Int32.ofNat v) sg wd).2.2.2.2.1 fa pl (goV B sz lim a (Int32.ofNat v) sg wd).2.2.2.2.2 (Int32.ofNat v) po)]) := by
  subst c2
  refine FR_ov (l := [(180, mcl p0 p2 sz lim a fr kd (Int32.ofNat v) sg fa pl wd td po), (181, mtl ts)]) (l2 := [(180, mcl p0 p2 sz lim (goV B sz lim a (Int32.ofNat v) sg wd).1 (goV B sz lim a (Int32.ofNat v) sg wd).2.1 (goV B sz lim a (Int32.ofNat v) sg wd).2.2.1 (goV B sz lim a (Int32.ofNat v) sg wd).2.2.2.1 (goV B sz lim a (Int32.ofNat v) sg wd).2.2.2.2.1 fa pl (goV B sz lim a (Int32.ofNat v) sg wd).2.2.2.2.2 (Int32.ofNat v) po), (181, mtl ts)]) (ov_id h1 (ov_c1 h2)) rfl (ov_2 h2) ?_
  refine RT_step (pc2 := 1) rfl (fun _ _ => rfl) ?_
  refine ow_gf rfl rfl rfl hlen rfl ?_
  refine rt_ico rfl ki_3 ?_
  refine RT_step rfl (fun _ _ => rfl) ?_
  refine RT_if (n_eq c1) ?_
  refine RT_step (pc2 := 15) rfl (fun _ _ => rfl) ?_
  refine ow_gf rfl rfl rfl hlen rfl ?_
  refine RT_step (pc2 := 19) rfl (fun _ _ => rfl) ?_
  refine RT_step (pc2 := 20) rfl (fun _ _ => rfl) ?_
  refine ow_is rfl rfl rfl rfl rfl ((m_isIn (by omega) (by omega) (by omega)).up (by decide)) rfl ?_
  refine RT_step rfl (fun _ _ => rfl) ?_
  refine RT_el (b01_t c3) ?_
  refine RT_step (pc2 := 33) rfl (fun _ _ => rfl) ?_
  refine RT_step (pc2 := 34) rfl (fun _ _ => rfl) ?_
  refine ow_gf rfl rfl rfl hlen rfl ?_
  refine ow_pf rfl rfl rfl rfl rfl hlen rfl rfl ?_
  refine RT_step (pc2 := 41) rfl (fun _ _ => rfl) ?_
  refine ow_iv rfl rfl rfl rfl hlen rfl rfl rfl ((m_go hM (ov_hl hlen) (ov_at rfl (ov_lt hlen (by decide))) (ov_at rfl (ov_lt hlen (by decide))) ha hs hl).up (by decide)) rfl ?_
  refine rt_ico rfl ki_1 ?_
  exact ow_irt rfl rfl rfl
theorem m_readEnd_f {H : List AE} {ts : List Int32} {B : Nat → Nat} (hM : MY ts B) (hlen : Nat.ble 204 H.length = true) {p0 p2 nu sg fa pl td : Int32} {sz lim fr kd : Nat} {wd : Int64} {po : List Value} {a : Nat} (h1 : H[180]? = some (mcl p0 p2 sz lim a fr kd nu sg fa pl wd td po)) (h2 : H[181]? = some (mtl ts)) (ha : a ≤ sz) (hs : sz ≤ 940) (hl : lim ≤ 940) (hk : kd < 10) {s : Nat} (hs2 : s < 256) (hsg : kd = 4 → sg = Int32.ofNat s) (hf : (Nat.beq kd 4 && Nat.beq s 59) = false) : FR 3 251 [.ref 180] H (some (.int (Int32.ofNat 0)), ov H [(180, mcl p0 p2 sz lim a fr kd nu sg (if kd = 1 then Int32.ofNat 1 else Int32.ofNat 1) (Int32.ofNat fr) wd td po)]) := by
  refine FR_ov (l := [(180, mcl p0 p2 sz lim a fr kd nu sg fa pl wd td po), (181, mtl ts)]) (l2 := [(180, mcl p0 p2 sz lim a fr kd nu sg (if kd = 1 then Int32.ofNat 1 else Int32.ofNat 1) (Int32.ofNat fr) wd td po), (181, mtl ts)]) (ov_id h1 (ov_c1 h2)) rfl (ov_2 h2) ?_
  refine RT_step (pc2 := 1) rfl (fun _ _ => rfl) ?_
  refine rt_bip rfl k8_59 ?_
  refine ow_iv rfl rfl rfl rfl hlen rfl rfl rfl ((m_isSign (ov_hl hlen) (ov_at rfl (ov_lt hlen (by decide))) hk (by decide) hs2 hsg).up (by decide)) rfl ?_
  refine RT_step rfl (fun _ _ => rfl) ?_
  refine RT_if (b01_f hf) ?_
  refine RT_step (pc2 := 10) rfl (fun _ _ => rfl) ?_
  refine rt_ico rfl ki_1 ?_
  refine ow_iv rfl rfl rfl rfl hlen rfl rfl rfl ((m_bad (ov_hl hlen) (ov_at rfl (ov_lt hlen (by decide))) hk).up (by decide)) rfl ?_
  exact ow_irt rfl rfl rfl
theorem m_readEnd_t {H : List AE} {ts : List Int32} {B : Nat → Nat} (hM : MY ts B) (hlen : Nat.ble 204 H.length = true) {p0 p2 nu sg fa pl td : Int32} {sz lim fr kd : Nat} {wd : Int64} {po : List Value} {a : Nat} (h1 : H[180]? = some (mcl p0 p2 sz lim a fr kd nu sg fa pl wd td po)) (h2 : H[181]? = some (mtl ts)) (ha : a ≤ sz) (hs : sz ≤ 940) (hl : lim ≤ 940) (hk : kd < 10) {s : Nat} (hs2 : s < 256) (hsg : kd = 4 → sg = Int32.ofNat s) (hf : (Nat.beq kd 4 && Nat.beq s 59) = true) : FR 3 251 [.ref 180] H (some (.int (Int32.ofNat 1)), ov H [(180, mcl p0 p2 sz lim (goV B sz lim a nu sg wd).1 (goV B sz lim a nu sg wd).2.1 (goV B sz lim a nu sg wd).2.2.1 (goV B sz lim a nu sg wd).2.2.2.1 (goV B sz lim a nu sg wd).2.2.2.2.1 fa pl (goV B sz lim a nu sg wd).2.2.2.2.2 td po)]) := by
  refine FR_ov (l := [(180, mcl p0 p2 sz lim a fr kd nu sg fa pl wd td po), (181, mtl ts)]) (l2 := [(180, mcl p0 p2 sz lim (goV B sz lim a nu sg wd).1 (goV B sz lim a nu sg wd).2.1 (goV B sz lim a nu sg wd).2.2.1 (goV B sz lim a nu sg wd).2.2.2.1 (goV B sz lim a nu sg wd).2.2.2.2.1 fa pl (goV B sz lim a nu sg wd).2.2.2.2.2 td po), (181, mtl ts)]) (ov_id h1 (ov_c1 h2)) rfl (ov_2 h2) ?_
  refine RT_step (pc2 := 1) rfl (fun _ _ => rfl) ?_
  refine rt_bip rfl k8_59 ?_
  refine ow_iv rfl rfl rfl rfl hlen rfl rfl rfl ((m_isSign (ov_hl hlen) (ov_at rfl (ov_lt hlen (by decide))) hk (by decide) hs2 hsg).up (by decide)) rfl ?_
  refine RT_step rfl (fun _ _ => rfl) ?_
  refine RT_el (b01_t hf) ?_
  refine RT_step (pc2 := 16) rfl (fun _ _ => rfl) ?_
  refine ow_iv rfl rfl rfl rfl hlen rfl rfl rfl ((m_go hM (ov_hl hlen) (ov_at rfl (ov_lt hlen (by decide))) (ov_at rfl (ov_lt hlen (by decide))) ha hs hl).up (by decide)) rfl ?_
  refine rt_ico rfl ki_1 ?_
  exact ow_irt rfl rfl rfl
