/-! ===== fits ===== -/
def aD (B : Nat → Nat) (Dn : Nat) : Nat → Nat → Bool
  | 0, _ => true
  | r + 1, j => decide (B (2 * j) < Dn) && aD B Dn r (j + 1)
def aO (B : Nat → Nat) : Nat → Nat → Bool
  | 0, _ => true
  | r + 1, j => decide (B (2 * j + 1) ≤ 1) && aO B r (j + 1)
theorem aD_at {B : Nat → Nat} {Dn : Nat} : ∀ {r j i : Nat}, aD B Dn r j = true → j ≤ i → i < j + r → B (2 * i) < Dn
  | 0, j, i, _, h1, h2 => by omega
  | r + 1, j, i, h, h1, h2 => by
    have h : (decide (B (2 * j) < Dn) && aD B Dn r (j + 1)) = true := h
    rw [Bool.and_eq_true] at h
    by_cases e : j = i
    · subst e; exact of_decide_eq_true h.1
    · exact aD_at h.2 (by omega) (by omega)
theorem in_2 (i : Nat) : Int32.ofNat i + Int32.ofInt 2 = Int32.ofNat (i + 2) := by
  rw [show Int32.ofInt 2 = Int32.ofNat 2 from rfl, ← Int32.ofNat_add]
theorem n_andn {a c : Nat} (ha : a < 2097152) (hc : c < 2097152) : Int32.ofNat a &&& (Int32.ofNat c ^^^ (-1 : Int32)) = Int32.ofNat (a &&& (2097152 - (c + 1))) := by
  apply Int32.toBitVec_inj.mp
  show BitVec.ofNat 32 a &&& (BitVec.ofNat 32 c ^^^ BitVec.allOnes 32) = BitVec.ofNat 32 (a &&& (2097152 - (c + 1)))
  apply BitVec.eq_of_getLsbD_eq
  intro i hi
  rw [BitVec.getLsbD_and, BitVec.getLsbD_xor, BitVec.getLsbD_ofNat, BitVec.getLsbD_ofNat, BitVec.getLsbD_ofNat, BitVec.getLsbD_allOnes, decide_eq_true hi, Nat.testBit_and, show (2097152 : Nat) = 2 ^ 21 from rfl, Nat.testBit_two_pow_sub_succ (show c < 2 ^ 21 from hc)]
  cases e : a.testBit i with
  | false => rfl
  | true =>
    have := bit_lt (m := 21) ha e
    rw [decide_eq_true this]
    cases c.testBit i <;> rfl
def fbL (C : Nat → Nat) (B : Nat → Nat) : Nat → Nat → Nat → Nat
  | 0, _, b => b
  | r + 1, j, b => fbL C B r (j + 1) (if B (2 * j + 1) = 1 then b &&& C (B (2 * j)) else b &&& (2097152 - (C (B (2 * j)) + 1)))
def soL (K : Nat → Bool) (B : Nat → Nat) : Nat → Nat → Bool → Bool
  | 0, _, so => so
  | r + 1, j, so => soL K B r (j + 1) (so && (K (B (2 * j)) == decide (B (2 * j + 1) = 1)))
theorem fb_lt {C B : Nat → Nat} {m : Nat} : ∀ {r j b : Nat}, b < 2 ^ m → fbL C B r j b < 2 ^ m
  | 0, _, _, h => h
  | r + 1, j, b, h => by
    show fbL C B r (j + 1) (if B (2 * j + 1) = 1 then b &&& C (B (2 * j)) else b &&& (2097152 - (C (B (2 * j)) + 1))) < _
    refine fb_lt ?_
    split
    · exact Nat.lt_of_le_of_lt Nat.and_le_left h
    · exact Nat.lt_of_le_of_lt Nat.and_le_left h
/-- a bit that is left says that the HAND fits all outcomes -/
theorem fb_so {C B : Nat → Nat} {K : Nat → Nat → Bool} {c : Nat} (hc : c < 21) (hC : ∀ d, C d < 2097152) (hK : ∀ d, (C d).testBit c = K c d) : ∀ (r j b : Nat), (fbL C B r j b).testBit c = soL (K c) B r j (b.testBit c)
  | 0, _, _ => rfl
  | r + 1, j, b => by
    show (fbL C B r (j + 1) (if B (2 * j + 1) = 1 then b &&& C (B (2 * j)) else b &&& (2097152 - (C (B (2 * j)) + 1)))).testBit c = soL (K c) B r (j + 1) (b.testBit c && (K c (B (2 * j)) == decide (B (2 * j + 1) = 1)))
    by_cases e : B (2 * j + 1) = 1
    · rw [if_pos e, fb_so hc hC hK r (j + 1), Nat.testBit_and, hK, decide_eq_true e]
      cases K c (B (2 * j)) <;> rfl
    · rw [if_neg e, fb_so hc hC hK r (j + 1), Nat.testBit_and, show (2097152 : Nat) = 2 ^ 21 from rfl, Nat.testBit_two_pow_sub_succ (hC _), hK, decide_eq_true hc, decide_eq_false e]
      cases K c (B (2 * j)) <;> rfl
theorem cnt_same {b x : Nat} : ∀ {e k : Nat}, cnt b e = cnt b (e + k) → cnt (b &&& x) e = cnt (b &&& x) (e + k)
  | _, 0, _ => rfl
  | e, k + 1, h => by
    have m := cnt_mono (b := b) (i := e) (k := k)
    cases q : b.testBit (e + k) with
    | true => rw [show e + (k + 1) = (e + k) + 1 by omega, cnt_t q] at h; omega
    | false =>
      rw [show e + (k + 1) = (e + k) + 1 by omega, cnt_f q] at h
      rw [show e + (k + 1) = (e + k) + 1 by omega, cnt_f (b := b &&& x) (by rw [Nat.testBit_and, q]; rfl)]
      exact cnt_same h
theorem cnt_top {b m : Nat} (hb : b < 2 ^ m) : ∀ {k : Nat}, cnt b (m + k) = cnt b m
  | 0 => rfl
  | k + 1 => by
    show cnt b (m + k) + cond (b.testBit (m + k)) 1 0 = _
    rw [cnt_top hb, Nat.testBit_lt_two_pow (Nat.lt_of_lt_of_le hb (Nat.pow_le_pow_right (by decide) (by omega)))]
    rfl
theorem cnt_0 {b m : Nat} (hb : b < 2 ^ m) : cnt b m = 0 ↔ b = 0 := by
  constructor
  · intro h
    refine Nat.eq_of_testBit_eq (fun j => ?_)
    rw [Nat.zero_testBit]
    cases e : b.testBit j with
    | false => rfl
    | true =>
      have hj := bit_lt hb e
      obtain ⟨k, rfl⟩ : ∃ k, m = j + 1 + k := ⟨m - (j + 1), by omega⟩
      have := cnt_mono (b := b) (i := j + 1) (k := k)
      rw [cnt_t e] at this
      omega
  · intro h
    subst h
    have : ∀ m, cnt 0 m = 0 := fun m => by
      induction m with
      | zero => rfl
      | succ m ih => rw [cnt_f (Nat.zero_testBit m), ih]
    exact this m
def ab (z : Int32) : Int32 := if 0 ≤ z then z else -z
def dif (a b : Nat) : Nat := (2 * a - b) + (b - 2 * a)
theorem ab_1 : ∀ a, a < 22 → ∀ b, b < 22 → ab (Int32.ofNat a - (Int32.ofNat b - Int32.ofNat a)) = Int32.ofNat (dif a b) := by decide +kernel
theorem ab_2 : ∀ a, a < 22 → ∀ b, b < 22 → ab (Int32.ofNat 2 * Int32.ofNat a - Int32.ofNat b) = Int32.ofNat (dif a b) := by decide +kernel
theorem dif_lt : ∀ a, a < 22 → ∀ b, b < 22 → dif a b < 100 := by decide +kernel
def mnF (o : Nat → Nat) : Nat → Nat → Nat → Nat
  | 0, _, b => b
  | r + 1, d, b => mnF o r (d + 1) (if o d < o b then d else b)
theorem x_abs {H : List AE} (z : Int32) : FR 1 299 [.int z] H (some (.int (ab z)), ov H []) := by
  refine FR_of rfl ?_
  by_cases c : 0 ≤ z
  · rw [show ab z = z from if_pos c]
    refine RT_step (pc2 := 1) rfl (fun _ _ => rfl) ?_
    refine bcT_ge rfl c ?_
    refine RT_step (pc2 := 10) rfl (fun _ _ => rfl) ?_
    exact ow_irt rfl rfl rfl
  · rw [show ab z = -z from if_neg c]
    refine RT_step (pc2 := 1) rfl (fun _ _ => rfl) ?_
    refine bcF_ge rfl c ?_
    refine RT_step (pc2 := 5) rfl (fun _ _ => rfl) ?_
    refine RT_step (pc2 := 6) rfl (fun _ _ => rfl) ?_
    refine RT_step (pc2 := 10) rfl (fun _ _ => rfl) ?_
    exact ow_irt rfl rfl rfl
theorem m_size {H : List AE} (z : Int32) : FR 1 274 [.int z] H (some (.int (ab z)), ov H []) := by
  refine FR_of rfl ?_
  by_cases c : 0 ≤ z
  · rw [show ab z = z from if_pos c]
    refine RT_step (pc2 := 1) rfl (fun _ _ => rfl) ?_
    refine bcT_ge rfl c ?_
    refine RT_step (pc2 := 10) rfl (fun _ _ => rfl) ?_
    exact ow_irt rfl rfl rfl
  · rw [show ab z = -z from if_neg c]
    refine RT_step (pc2 := 1) rfl (fun _ _ => rfl) ?_
    refine bcF_ge rfl c ?_
    refine RT_step (pc2 := 5) rfl (fun _ _ => rfl) ?_
    refine RT_step (pc2 := 6) rfl (fun _ _ => rfl) ?_
    refine RT_step (pc2 := 10) rfl (fun _ _ => rfl) ?_
    exact ow_irt rfl rfl rfl
theorem x_isD3 {H : List AE} (hlen : Nat.ble 204 H.length = true) {s se ss : Nat} {lt fb tq gb : Int32} {P Dn gl bo : Nat} {lw cl id : Int32} (h0 : H[0]? = some (.inr (10, [.ref 1, .ref 3, .ref s, .ref 23, .ref 31, .ref 39, .ref 105, .ref se, .ref ss, .ref 120, .ref 125, .ref 129, .ref 131, .int lt, .int fb, .int tq, .int gb]))) (h1 : H[3]? = some (dcl3 P Dn lw cl id gl bo)) (hD : Dn ≤ 8) {v : Nat} (hv : v < 256) : FR 1 26 [.ref 0, .int (Int32.ofNat v)] H (some (.int (b01 (decide (v < Dn)))), ov H []) := by
  refine FR_ov (l := [(0, .inr (10, [.ref 1, .ref 3, .ref s, .ref 23, .ref 31, .ref 39, .ref 105, .ref se, .ref ss, .ref 120, .ref 125, .ref 129, .ref 131, .int lt, .int fb, .int tq, .int gb])), (3, dcl3 P Dn lw cl id gl bo)]) (l2 := [(0, .inr (10, [.ref 1, .ref 3, .ref s, .ref 23, .ref 31, .ref 39, .ref 105, .ref se, .ref ss, .ref 120, .ref 125, .ref 129, .ref 131, .int lt, .int fb, .int tq, .int gb])), (3, dcl3 P Dn lw cl id gl bo)]) (ov_id h0 (ov_c1 h1)) rfl (ov_id h0 (ov_c1 h1)) ?_
  by_cases c : v < Dn
  · rw [decide_eq_true c]
    refine RT_step (pc2 := 1) rfl (fun _ _ => rfl) ?_
    refine bcF_lt rfl (n_ps (by omega)) ?_
    refine RT_step (pc2 := 5) rfl (fun _ _ => rfl) ?_
    refine RT_step (pc2 := 6) rfl (fun _ _ => rfl) ?_
    refine ow_gf rfl rfl rfl hlen rfl ?_
    refine ow_gf rfl rfl rfl hlen rfl ?_
    refine biF_ge rfl (n_nle (by omega) (by omega)) ?_
    refine rt_ico rfl ki_1 ?_
    refine RT_step (pc2 := 20) rfl (fun _ _ => rfl) ?_
    exact ow_irt rfl rfl rfl
  · rw [decide_eq_false c]
    refine RT_step (pc2 := 1) rfl (fun _ _ => rfl) ?_
    refine bcF_lt rfl (n_ps (by omega)) ?_
    refine RT_step (pc2 := 5) rfl (fun _ _ => rfl) ?_
    refine RT_step (pc2 := 6) rfl (fun _ _ => rfl) ?_
    refine ow_gf rfl rfl rfl hlen rfl ?_
    refine ow_gf rfl rfl rfl hlen rfl ?_
    refine biT_ge rfl (n_le (by omega) (by omega)) ?_
    refine rt_ico rfl ki_0 ?_
    exact ow_irt rfl rfl rfl
theorem x_tdL3 {H : List AE} (hlen : Nat.ble 204 H.length = true) {s se ss : Nat} {lt fb tq gb : Int32} {n lim a kd pl w : Nat} {le : Int64} {nu tk fa fp : Int32} {P Dn gl bo : Nat} {lw cl id : Int32} {bs : List Int32} {B : Nat → Nat} (hB : BY bs B) (hb : ∀ i, B i < 256) (hD : Dn ≤ 8) {m : Nat} (hn : n = 2 * m) (hn2 : n ≤ 12) {dd : Nat} : ∀ (r j : Nat) (L : List (Nat × Value)), j + r = m → ev_g L 0 = some (.ref 0) → ev_g L 1 = some (.int (Int32.ofNat 2)) → ev_g L 2 = some (.int (Int32.ofNat (2 * j))) → RT MM (dd + 1) 42 2 L [] (ov H [(0, .inr (10, [.ref 1, .ref 3, .ref s, .ref 23, .ref 31, .ref 39, .ref 105, .ref se, .ref ss, .ref 120, .ref 125, .ref 129, .ref 131, .int lt, .int fb, .int tq, .int gb])), (1, tcl n lim a kd pl w le nu tk fa fp), (2, bcl bs), (3, dcl3 P Dn lw cl id gl bo)]) (some (.int (b01 (aD B Dn r j))), ov H [(0, .inr (10, [.ref 1, .ref 3, .ref s, .ref 23, .ref 31, .ref 39, .ref 105, .ref se, .ref ss, .ref 120, .ref 125, .ref 129, .ref 131, .int lt, .int fb, .int tq, .int gb])), (1, tcl n lim a kd pl w le nu tk fa fp), (2, bcl bs), (3, dcl3 P Dn lw cl id gl bo)]) := by
  intro r
  induction r with
  | zero =>
    intro j L hj l0 l1 l2
    refine rt_ild rfl l2 ?_
    refine rt_ald rfl l0 ?_
    refine ow_gf rfl rfl rfl hlen rfl ?_
    refine ow_gf rfl rfl rfl hlen rfl ?_
    refine biT_ge rfl (n_le (by omega) (by omega)) ?_
    refine rt_ico rfl ki_1 ?_
    exact ow_irt rfl rfl rfl
  | succ r ih =>
    intro j L hj l0 l1 l2
    have cd := x_isD3 (H := ov H [(0, .inr (10, [.ref 1, .ref 3, .ref s, .ref 23, .ref 31, .ref 39, .ref 105, .ref se, .ref ss, .ref 120, .ref 125, .ref 129, .ref 131, .int lt, .int fb, .int tq, .int gb])), (1, tcl n lim a kd pl w le nu tk fa fp), (2, bcl bs), (3, dcl3 P Dn lw cl id gl bo)]) (ov_hl hlen) (ov_at rfl (ov_lt hlen (by decide))) (ov_at rfl (ov_lt hlen (by decide))) hD (hb (2 * j))
    by_cases c : B (2 * j) < Dn
    · rw [decide_eq_true c] at cd
      rw [show aD B Dn (r + 1) j = aD B Dn r (j + 1) from by show (decide (B (2 * j) < Dn) && aD B Dn r (j + 1)) = _; rw [decide_eq_true c, Bool.true_and]]
      refine rt_ild rfl l2 ?_
      refine rt_ald rfl l0 ?_
      refine ow_gf rfl rfl rfl hlen rfl ?_
      refine ow_gf rfl rfl rfl hlen rfl ?_
      refine biF_ge rfl (n_nle (by omega) (by omega)) ?_
      refine rt_ald rfl l0 ?_
      refine rt_ald rfl l0 ?_
      refine ow_gf rfl rfl rfl hlen rfl ?_
      refine rt_ild rfl l2 ?_
      refine ow_iv1 (l2 := [(0, .inr (10, [.ref 1, .ref 3, .ref s, .ref 23, .ref 31, .ref 39, .ref 105, .ref se, .ref ss, .ref 120, .ref 125, .ref 129, .ref 131, .int lt, .int fb, .int tq, .int gb])), (1, tcl n lim a kd pl w le nu tk fa fp), (2, bcl bs), (3, dcl3 P Dn lw cl id gl bo)]) rfl rfl rfl rfl hlen rfl rfl rfl ((x_signAt (fs := _) (ov_at rfl (ov_lt hlen (by decide))) (ov_at rfl (ov_lt hlen (by decide))) hB (ov_hl hlen) (show 2 * j < 940 by omega)).up (by omega)) rfl ?_
      refine ow_iv1 (l2 := [(0, .inr (10, [.ref 1, .ref 3, .ref s, .ref 23, .ref 31, .ref 39, .ref 105, .ref se, .ref ss, .ref 120, .ref 125, .ref 129, .ref 131, .int lt, .int fb, .int tq, .int gb])), (1, tcl n lim a kd pl w le nu tk fa fp), (2, bcl bs), (3, dcl3 P Dn lw cl id gl bo)]) rfl rfl rfl rfl hlen rfl rfl rfl (cd.up (by omega)) rfl ?_
      refine bcF_ne rfl (by decide) ?_
      refine rt_ild rfl l2 ?_
      refine rt_ild rfl l1 ?_
      refine ba_iadd rfl ?_
      rw [n_add, show 2 * j + 2 = 2 * (j + 1) by omega]
      refine rt_ist rfl (by decide +kernel) ?_
      refine RT_step (pc2 := 2) rfl (fun _ _ => rfl) ?_
      exact ih (j + 1) _ (by omega) (gs_o rfl l0 rfl) (gs_o rfl l1 rfl) gs_n
    · rw [decide_eq_false c] at cd
      rw [show aD B Dn (r + 1) j = false from by show (decide (B (2 * j) < Dn) && aD B Dn r (j + 1)) = _; rw [decide_eq_false c, Bool.false_and]]
      refine rt_ild rfl l2 ?_
      refine rt_ald rfl l0 ?_
      refine ow_gf rfl rfl rfl hlen rfl ?_
      refine ow_gf rfl rfl rfl hlen rfl ?_
      refine biF_ge rfl (n_nle (by omega) (by omega)) ?_
      refine rt_ald rfl l0 ?_
      refine rt_ald rfl l0 ?_
      refine ow_gf rfl rfl rfl hlen rfl ?_
      refine rt_ild rfl l2 ?_
      refine ow_iv1 (l2 := [(0, .inr (10, [.ref 1, .ref 3, .ref s, .ref 23, .ref 31, .ref 39, .ref 105, .ref se, .ref ss, .ref 120, .ref 125, .ref 129, .ref 131, .int lt, .int fb, .int tq, .int gb])), (1, tcl n lim a kd pl w le nu tk fa fp), (2, bcl bs), (3, dcl3 P Dn lw cl id gl bo)]) rfl rfl rfl rfl hlen rfl rfl rfl ((x_signAt (fs := _) (ov_at rfl (ov_lt hlen (by decide))) (ov_at rfl (ov_lt hlen (by decide))) hB (ov_hl hlen) (show 2 * j < 940 by omega)).up (by omega)) rfl ?_
      refine ow_iv1 (l2 := [(0, .inr (10, [.ref 1, .ref 3, .ref s, .ref 23, .ref 31, .ref 39, .ref 105, .ref se, .ref ss, .ref 120, .ref 125, .ref 129, .ref 131, .int lt, .int fb, .int tq, .int gb])), (1, tcl n lim a kd pl w le nu tk fa fp), (2, bcl bs), (3, dcl3 P Dn lw cl id gl bo)]) rfl rfl rfl rfl hlen rfl rfl rfl (cd.up (by omega)) rfl ?_
      refine bcT_ne rfl rfl ?_
      refine rt_ico rfl ki_0 ?_
      exact ow_irt rfl rfl rfl
theorem x_toL3 {H : List AE} (hlen : Nat.ble 204 H.length = true) {s se ss : Nat} {lt fb tq gb : Int32} {n lim a kd pl w : Nat} {le : Int64} {nu tk fa fp : Int32} {P Dn gl bo : Nat} {lw cl id : Int32} {bs : List Int32} {B : Nat → Nat} (hB : BY bs B) (hb : ∀ i, B i < 256) (hD : Dn ≤ 8) {m : Nat} (hn : n = 2 * m) (hn2 : n ≤ 12) {dd : Nat} : ∀ (r j : Nat) (L : List (Nat × Value)), j + r = m → ev_g L 0 = some (.ref 0) → ev_g L 1 = some (.int (Int32.ofNat (2 * j + 1))) → RT MM (dd + 1) 43 2 L [] (ov H [(0, .inr (10, [.ref 1, .ref 3, .ref s, .ref 23, .ref 31, .ref 39, .ref 105, .ref se, .ref ss, .ref 120, .ref 125, .ref 129, .ref 131, .int lt, .int fb, .int tq, .int gb])), (1, tcl n lim a kd pl w le nu tk fa fp), (2, bcl bs), (3, dcl3 P Dn lw cl id gl bo)]) (some (.int (b01 (aO B r j))), ov H [(0, .inr (10, [.ref 1, .ref 3, .ref s, .ref 23, .ref 31, .ref 39, .ref 105, .ref se, .ref ss, .ref 120, .ref 125, .ref 129, .ref 131, .int lt, .int fb, .int tq, .int gb])), (1, tcl n lim a kd pl w le nu tk fa fp), (2, bcl bs), (3, dcl3 P Dn lw cl id gl bo)]) := by
  intro r
  induction r with
  | zero =>
    intro j L hj l0 l1
    refine rt_ild rfl l1 ?_
    refine rt_ald rfl l0 ?_
    refine ow_gf rfl rfl rfl hlen rfl ?_
    refine ow_gf rfl rfl rfl hlen rfl ?_
    refine biT_ge rfl (n_le (by omega) (by omega)) ?_
    refine rt_ico rfl ki_1 ?_
    exact ow_irt rfl rfl rfl
  | succ r ih =>
    intro j L hj l0 l1
    have hv := hb (2 * j + 1)
    by_cases c : B (2 * j + 1) ≤ 1
    · rw [show aO B (r + 1) j = aO B r (j + 1) from by show (decide (B (2 * j + 1) ≤ 1) && aO B r (j + 1)) = _; rw [decide_eq_true c, Bool.true_and]]
      refine rt_ild rfl l1 ?_
      refine rt_ald rfl l0 ?_
      refine ow_gf rfl rfl rfl hlen rfl ?_
      refine ow_gf rfl rfl rfl hlen rfl ?_
      refine biF_ge rfl (n_nle (by omega) (by omega)) ?_
      refine rt_ald rfl l0 ?_
      refine ow_gf rfl rfl rfl hlen rfl ?_
      refine rt_ild rfl l1 ?_
      refine ow_iv1 (l2 := [(0, .inr (10, [.ref 1, .ref 3, .ref s, .ref 23, .ref 31, .ref 39, .ref 105, .ref se, .ref ss, .ref 120, .ref 125, .ref 129, .ref 131, .int lt, .int fb, .int tq, .int gb])), (1, tcl n lim a kd pl w le nu tk fa fp), (2, bcl bs), (3, dcl3 P Dn lw cl id gl bo)]) rfl rfl rfl rfl hlen rfl rfl rfl ((x_signAt (fs := _) (ov_at rfl (ov_lt hlen (by decide))) (ov_at rfl (ov_lt hlen (by decide))) hB (ov_hl hlen) (show 2 * j + 1 < 940 by omega)).up (by omega)) rfl ?_
      refine rt_ico rfl ki_1 ?_
      refine biT_le rfl (n_le c (by decide)) ?_
      refine rt_inc rfl l1 (by decide +kernel) ?_
      rw [in_2, show 2 * j + 1 + 2 = 2 * (j + 1) + 1 by omega]
      refine RT_step (pc2 := 2) rfl (fun _ _ => rfl) ?_
      exact ih (j + 1) _ (by omega) (gs_o rfl l0 rfl) gs_n
    · rw [show aO B (r + 1) j = false from by show (decide (B (2 * j + 1) ≤ 1) && aO B r (j + 1)) = _; rw [decide_eq_false c, Bool.false_and]]
      refine rt_ild rfl l1 ?_
      refine rt_ald rfl l0 ?_
      refine ow_gf rfl rfl rfl hlen rfl ?_
      refine ow_gf rfl rfl rfl hlen rfl ?_
      refine biF_ge rfl (n_nle (by omega) (by omega)) ?_
      refine rt_ald rfl l0 ?_
      refine ow_gf rfl rfl rfl hlen rfl ?_
      refine rt_ild rfl l1 ?_
      refine ow_iv1 (l2 := [(0, .inr (10, [.ref 1, .ref 3, .ref s, .ref 23, .ref 31, .ref 39, .ref 105, .ref se, .ref ss, .ref 120, .ref 125, .ref 129, .ref 131, .int lt, .int fb, .int tq, .int gb])), (1, tcl n lim a kd pl w le nu tk fa fp), (2, bcl bs), (3, dcl3 P Dn lw cl id gl bo)]) rfl rfl rfl rfl hlen rfl rfl rfl ((x_signAt (fs := _) (ov_at rfl (ov_lt hlen (by decide))) (ov_at rfl (ov_lt hlen (by decide))) hB (ov_hl hlen) (show 2 * j + 1 < 940 by omega)).up (by omega)) rfl ?_
      refine rt_ico rfl ki_1 ?_
      refine biF_le rfl (n_nle (by omega) (by omega)) ?_
      refine rt_ico rfl ki_0 ?_
      exact ow_irt rfl rfl rfl
theorem x_td3 {H : List AE} (hlen : Nat.ble 204 H.length = true) {s se ss : Nat} {lt fb tq gb : Int32} {n lim a kd pl w : Nat} {le : Int64} {nu tk fa fp : Int32} {P Dn gl bo : Nat} {lw cl id : Int32} {bs : List Int32} {B : Nat → Nat} (hB : BY bs B) (hb : ∀ i, B i < 256) (hD : Dn ≤ 8) {m : Nat} (hn : n = 2 * m) (hn2 : n ≤ 12) (h0 : H[0]? = some (.inr (10, [.ref 1, .ref 3, .ref s, .ref 23, .ref 31, .ref 39, .ref 105, .ref se, .ref ss, .ref 120, .ref 125, .ref 129, .ref 131, .int lt, .int fb, .int tq, .int gb]))) (h1 : H[1]? = some (tcl n lim a kd pl w le nu tk fa fp)) (h2 : H[2]? = some (bcl bs)) (h3 : H[3]? = some (dcl3 P Dn lw cl id gl bo)) : FR 2 42 [.ref 0, .int (Int32.ofNat 2)] H (some (.int (b01 (aD B Dn m 0))), ov H []) := by
  refine FR_ov (l := [(0, .inr (10, [.ref 1, .ref 3, .ref s, .ref 23, .ref 31, .ref 39, .ref 105, .ref se, .ref ss, .ref 120, .ref 125, .ref 129, .ref 131, .int lt, .int fb, .int tq, .int gb])), (1, tcl n lim a kd pl w le nu tk fa fp), (2, bcl bs), (3, dcl3 P Dn lw cl id gl bo)]) (l2 := [(0, .inr (10, [.ref 1, .ref 3, .ref s, .ref 23, .ref 31, .ref 39, .ref 105, .ref se, .ref ss, .ref 120, .ref 125, .ref 129, .ref 131, .int lt, .int fb, .int tq, .int gb])), (1, tcl n lim a kd pl w le nu tk fa fp), (2, bcl bs), (3, dcl3 P Dn lw cl id gl bo)]) (ov_id h0 (ov_id h1 (ov_id h2 (ov_c1 h3)))) rfl (ov_id h0 (ov_id h1 (ov_id h2 (ov_c1 h3)))) ?_
  refine rt_ico rfl ki_0 ?_
  refine RT_step (pc2 := 2) rfl (fun _ _ => rfl) ?_
  exact x_tdL3 (dd := 0) hlen hB hb hD hn hn2 m 0 _ (by omega) rfl rfl rfl
theorem x_to3 {H : List AE} (hlen : Nat.ble 204 H.length = true) {s se ss : Nat} {lt fb tq gb : Int32} {n lim a kd pl w : Nat} {le : Int64} {nu tk fa fp : Int32} {P Dn gl bo : Nat} {lw cl id : Int32} {bs : List Int32} {B : Nat → Nat} (hB : BY bs B) (hb : ∀ i, B i < 256) (hD : Dn ≤ 8) {m : Nat} (hn : n = 2 * m) (hn2 : n ≤ 12) (h0 : H[0]? = some (.inr (10, [.ref 1, .ref 3, .ref s, .ref 23, .ref 31, .ref 39, .ref 105, .ref se, .ref ss, .ref 120, .ref 125, .ref 129, .ref 131, .int lt, .int fb, .int tq, .int gb]))) (h1 : H[1]? = some (tcl n lim a kd pl w le nu tk fa fp)) (h2 : H[2]? = some (bcl bs)) (h3 : H[3]? = some (dcl3 P Dn lw cl id gl bo)) : FR 2 43 [.ref 0] H (some (.int (b01 (aO B m 0))), ov H []) := by
  refine FR_ov (l := [(0, .inr (10, [.ref 1, .ref 3, .ref s, .ref 23, .ref 31, .ref 39, .ref 105, .ref se, .ref ss, .ref 120, .ref 125, .ref 129, .ref 131, .int lt, .int fb, .int tq, .int gb])), (1, tcl n lim a kd pl w le nu tk fa fp), (2, bcl bs), (3, dcl3 P Dn lw cl id gl bo)]) (l2 := [(0, .inr (10, [.ref 1, .ref 3, .ref s, .ref 23, .ref 31, .ref 39, .ref 105, .ref se, .ref ss, .ref 120, .ref 125, .ref 129, .ref 131, .int lt, .int fb, .int tq, .int gb])), (1, tcl n lim a kd pl w le nu tk fa fp), (2, bcl bs), (3, dcl3 P Dn lw cl id gl bo)]) (ov_id h0 (ov_id h1 (ov_id h2 (ov_c1 h3)))) rfl (ov_id h0 (ov_id h1 (ov_id h2 (ov_c1 h3)))) ?_
  refine rt_ico rfl ki_1 ?_
  refine RT_step (pc2 := 2) rfl (fun _ _ => rfl) ?_
  exact x_toL3 (dd := 0) hlen hB hb hD hn hn2 m 0 _ (by omega) rfl rfl
theorem x_btA3 {H : List AE} (hlen : Nat.ble 204 H.length = true) {P Dn gl bo : Nat} {lw cl id : Int32} {ri lf ha : List Int32} (hbo : bo < 256) (hP : P ≤ 7) (hD : Dn ≤ 8) (lr : ri.length = 7) (ll : lf.length = 7) (lh : ha.length = 8) {b : Nat} (hb : b < 2097152) {dd d : Nat} (hd : d < Dn) {q : ev_R} {L : List (Nat × Value)} {v3 v4 : Int32} (l0 : ev_g L 0 = some (.ref 3)) (l1 : ev_g L 1 = some (.int (Int32.ofNat b))) (l2 : ev_g L 2 = some (.int (Int32.ofNat (cnt b 21)))) (l3 : ev_g L 3 = some (.int v3)) (l4 : ev_g L 4 = some (.int v4)) (l5 : ev_g L 5 = some (.int (Int32.ofNat d))) (hq : ∀ L2, ev_g L2 0 = some (.ref 3) → ev_g L2 1 = some (.int (Int32.ofNat b)) → ev_g L2 2 = some (.int (Int32.ofNat (cnt b 21))) → ev_g L2 3 = some (.int v3) → ev_g L2 4 = some (.int v4) → ev_g L2 5 = some (.int (Int32.ofNat d)) → ev_g L2 7 = some (.int (Int32.ofNat ((fun d => dif (cnt (b &&& cbL (KK' bo d ri lf ha) (3 * P) 0 0) 21) (cnt b 21)) d))) → RT MM (dd + 4) 59 47 L2 [] (ov H [(3, dcl3 P Dn lw cl id gl bo), (5, ia ri), (6, ia lf), (10, ia ha)]) q) : RT MM (dd + 4) 59 13 L [] (ov H [(3, dcl3 P Dn lw cl id gl bo), (5, ia ri), (6, ia lf), (10, ia ha)]) q := by
  have c1 := cnt_le (b := b) 21
  have c2 := cnt_le (b := b &&& (cbL (KK' bo d ri lf ha) (3 * P) 0 0)) 21
  have hbc : b &&& (cbL (KK' bo d ri lf ha) (3 * P) 0 0) < 2097152 := Nat.lt_of_le_of_lt Nat.and_le_left hb
  have cq := (x_cb3 (H := ov H [(3, dcl3 P Dn lw cl id gl bo), (5, ia ri), (6, ia lf), (10, ia ha)]) (ov_hl hlen) hbo (d := d) (by omega) hP lr ll lh (ov_at rfl (ov_lt hlen (by decide))) (ov_at rfl (ov_lt hlen (by decide))) (ov_at rfl (ov_lt hlen (by decide))) (ov_at rfl (ov_lt hlen (by decide))))
  have cb := x_bc (H := ov H [(3, dcl3 P Dn lw cl id gl bo), (5, ia ri), (6, ia lf), (10, ia ha)]) (Int32.ofNat (b &&& (cbL (KK' bo d ri lf ha) (3 * P) 0 0)))
  rw [bc_21 hbc] at cb
  have ca := x_abs (H := ov H [(3, dcl3 P Dn lw cl id gl bo), (5, ia ri), (6, ia lf), (10, ia ha)]) (Int32.ofNat (cnt (b &&& (cbL (KK' bo d ri lf ha) (3 * P) 0 0)) 21) - (Int32.ofNat (cnt b 21) - Int32.ofNat (cnt (b &&& (cbL (KK' bo d ri lf ha) (3 * P) 0 0)) 21)))
  rw [ab_1 _ (by omega) _ (by omega)] at ca
  refine rt_il2 rfl l5 ?_
  refine rt_ald rfl l0 ?_
  refine ow_gf rfl rfl rfl hlen rfl ?_
  refine biF_ge rfl (n_nle (by omega) (by omega)) ?_
  refine rt_ild rfl l1 ?_
  refine rt_ald rfl l0 ?_
  refine rt_il2 rfl l5 ?_
  refine ow_iv1 (l2 := [(3, dcl3 P Dn lw cl id gl bo), (5, ia ri), (6, ia lf), (10, ia ha)]) rfl rfl rfl rfl hlen rfl rfl rfl (cq.up (by omega)) rfl ?_
  refine ba_iand rfl ?_
  rw [n_and]
  refine ow_is1 (l2 := [(3, dcl3 P Dn lw cl id gl bo), (5, ia ri), (6, ia lf), (10, ia ha)]) rfl rfl rfl rfl rfl (cb.up (by omega)) rfl ?_
  refine rt_is2 rfl (by decide +kernel) ?_
  refine rt_il2 rfl gs_n ?_
  refine rt_ild rfl (gs_o rfl l2 rfl) ?_
  refine rt_il2 rfl gs_n ?_
  refine ba_isub rfl ?_
  refine ba_isub rfl ?_
  refine ow_is1 (l2 := [(3, dcl3 P Dn lw cl id gl bo), (5, ia ri), (6, ia lf), (10, ia ha)]) rfl rfl rfl rfl rfl (ca.up (by omega)) rfl ?_
  refine rt_is2 rfl (by decide +kernel) ?_
  exact hq _ (gs_o rfl (gs_o rfl l0 rfl) rfl) (gs_o rfl (gs_o rfl l1 rfl) rfl) (gs_o rfl (gs_o rfl l2 rfl) rfl) (gs_o rfl (gs_o rfl l3 rfl) rfl) (gs_o rfl (gs_o rfl l4 rfl) rfl) (gs_o rfl (gs_o rfl l5 rfl) rfl) gs_n
theorem x_btL23 {H : List AE} (hlen : Nat.ble 204 H.length = true) {P Dn gl bo : Nat} {lw cl id : Int32} {ri lf ha : List Int32} (hbo : bo < 256) (hP : P ≤ 7) (hD : Dn ≤ 8) (lr : ri.length = 7) (ll : lf.length = 7) (lh : ha.length = 8) {b : Nat} (hb : b < 2097152) {dd : Nat} : ∀ (r d t : Nat) (L : List (Nat × Value)), d + r = Dn → t < 8 → ev_g L 0 = some (.ref 3) → ev_g L 1 = some (.int (Int32.ofNat b)) → ev_g L 2 = some (.int (Int32.ofNat (cnt b 21))) → ev_g L 3 = some (.int (Int32.ofNat t)) → ev_g L 4 = some (.int (Int32.ofNat ((fun d => dif (cnt (b &&& cbL (KK' bo d ri lf ha) (3 * P) 0 0) 21) (cnt b 21)) t))) → ev_g L 5 = some (.int (Int32.ofNat d)) → RT MM (dd + 4) 59 13 L [] (ov H [(3, dcl3 P Dn lw cl id gl bo), (5, ia ri), (6, ia lf), (10, ia ha)]) (some (.int (Int32.ofNat (mnF (fun d => dif (cnt (b &&& cbL (KK' bo d ri lf ha) (3 * P) 0 0) 21) (cnt b 21)) r d t))), ov H [(3, dcl3 P Dn lw cl id gl bo), (5, ia ri), (6, ia lf), (10, ia ha)]) := by
  intro r
  induction r with
  | zero =>
    intro d t L hd ht l0 l1 l2 l3 l4 l5
    have hi : d = Dn := by omega
    subst hi
    refine rt_il2 rfl l5 ?_
    refine rt_ald rfl l0 ?_
    refine ow_gf rfl rfl rfl hlen rfl ?_
    refine biT_ge rfl (n_le (Nat.le_refl _) (by omega)) ?_
    refine rt_ild rfl l3 ?_
    exact ow_irt rfl rfl rfl
  | succ r ih =>
    intro d t L hd ht l0 l1 l2 l3 l4 l5
    refine x_btA3 hlen hbo hP hD lr ll lh hb (d := d) (by omega) l0 l1 l2 l3 l4 l5 (fun L2 m0 m1 m2 m3 m4 m5 m7 => ?_)
    have k1 : (fun d => dif (cnt (b &&& cbL (KK' bo d ri lf ha) (3 * P) 0 0) 21) (cnt b 21)) d < 100 := dif_lt _ (by have := cnt_le (b := b &&& (cbL (KK' bo d ri lf ha) (3 * P) 0 0)) 21; omega) _ (by have := cnt_le (b := b) 21; omega)
    have k2 : (fun d => dif (cnt (b &&& cbL (KK' bo d ri lf ha) (3 * P) 0 0) 21) (cnt b 21)) t < 100 := dif_lt _ (by have := cnt_le (b := b &&& (cbL (KK' bo t ri lf ha) (3 * P) 0 0)) 21; omega) _ (by have := cnt_le (b := b) 21; omega)
    by_cases c : (fun d => dif (cnt (b &&& cbL (KK' bo d ri lf ha) (3 * P) 0 0) 21) (cnt b 21)) d < (fun d => dif (cnt (b &&& cbL (KK' bo d ri lf ha) (3 * P) 0 0) 21) (cnt b 21)) t
    · rw [show mnF (fun d => dif (cnt (b &&& cbL (KK' bo d ri lf ha) (3 * P) 0 0) 21) (cnt b 21)) (r + 1) d t = mnF (fun d => dif (cnt (b &&& cbL (KK' bo d ri lf ha) (3 * P) 0 0) 21) (cnt b 21)) r (d + 1) d from congrArg (mnF (fun d => dif (cnt (b &&& cbL (KK' bo d ri lf ha) (3 * P) 0 0) 21) (cnt b 21)) r (d + 1)) (if_pos c)]
      refine rt_ild rfl m3 ?_
      refine rt_ico rfl ki_m1 ?_
      refine biF_eq rfl (n_m1 (by omega)) ?_
      refine rt_il2 rfl m7 ?_
      refine rt_il2 rfl m4 ?_
      refine biF_ge rfl (n_nle c (Nat.lt_trans k2 (by decide))) ?_
      refine rt_il2 rfl m5 ?_
      refine rt_ist rfl (by decide +kernel) ?_
      refine rt_il2 rfl (gs_o rfl m7 rfl) ?_
      refine rt_is2 rfl (by decide +kernel) ?_
      refine rt_inc rfl (gs_o rfl (gs_o rfl m5 rfl) rfl) (by decide +kernel) ?_
      rw [in_1]
      refine RT_step (pc2 := 13) rfl (fun _ _ => rfl) ?_
      exact ih (d + 1) d _ (by omega) (by omega) (gs_o rfl (gs_o rfl (gs_o rfl m0 rfl) rfl) rfl) (gs_o rfl (gs_o rfl (gs_o rfl m1 rfl) rfl) rfl) (gs_o rfl (gs_o rfl (gs_o rfl m2 rfl) rfl) rfl) (gs_o rfl (gs_o rfl gs_n rfl) rfl) (gs_o rfl gs_n rfl) gs_n
    · rw [show mnF (fun d => dif (cnt (b &&& cbL (KK' bo d ri lf ha) (3 * P) 0 0) 21) (cnt b 21)) (r + 1) d t = mnF (fun d => dif (cnt (b &&& cbL (KK' bo d ri lf ha) (3 * P) 0 0) 21) (cnt b 21)) r (d + 1) t from congrArg (mnF (fun d => dif (cnt (b &&& cbL (KK' bo d ri lf ha) (3 * P) 0 0) 21) (cnt b 21)) r (d + 1)) (if_neg c)]
      refine rt_ild rfl m3 ?_
      refine rt_ico rfl ki_m1 ?_
      refine biF_eq rfl (n_m1 (by omega)) ?_
      refine rt_il2 rfl m7 ?_
      refine rt_il2 rfl m4 ?_
      refine biT_ge rfl (n_le (Nat.le_of_not_lt c) (by omega)) ?_
      refine rt_inc rfl m5 (by decide +kernel) ?_
      rw [in_1]
      refine RT_step (pc2 := 13) rfl (fun _ _ => rfl) ?_
      exact ih (d + 1) t _ (by omega) ht (gs_o rfl m0 rfl) (gs_o rfl m1 rfl) (gs_o rfl m2 rfl) (gs_o rfl m3 rfl) (gs_o rfl m4 rfl) gs_n
theorem x_bt23 {H : List AE} (hlen : Nat.ble 204 H.length = true) {P Dn gl bo : Nat} {lw cl id : Int32} {ri lf ha : List Int32} (hbo : bo < 256) (hP : P ≤ 7) (hD : Dn ≤ 8) (lr : ri.length = 7) (ll : lf.length = 7) (lh : ha.length = 8) {b : Nat} (hb : b < 2097152) (h8 : 1 ≤ Dn) (h1 : H[3]? = some (dcl3 P Dn lw cl id gl bo)) (h2 : H[5]? = some (ia ri)) (h3 : H[6]? = some (ia lf)) (h4 : H[10]? = some (ia ha)) : FR 5 59 [.ref 3, .int (Int32.ofNat b)] H (some (.int (Int32.ofNat (mnF (fun d => dif (cnt (b &&& cbL (KK' bo d ri lf ha) (3 * P) 0 0) 21) (cnt b 21)) (Dn - 1) 1 0))), ov H []) := by
  have cb := x_bc (H := ov H [(3, dcl3 P Dn lw cl id gl bo), (5, ia ri), (6, ia lf), (10, ia ha)]) (Int32.ofNat b)
  rw [bc_21 hb] at cb
  refine FR_ov (l := [(3, dcl3 P Dn lw cl id gl bo), (5, ia ri), (6, ia lf), (10, ia ha)]) (l2 := [(3, dcl3 P Dn lw cl id gl bo), (5, ia ri), (6, ia lf), (10, ia ha)]) (ov_id h1 (ov_id h2 (ov_id h3 (ov_c1 h4)))) rfl (ov_id h1 (ov_id h2 (ov_id h3 (ov_c1 h4)))) ?_
  refine RT_step (pc2 := 1) rfl (fun _ _ => rfl) ?_
  refine ow_is1 (l2 := [(3, dcl3 P Dn lw cl id gl bo), (5, ia ri), (6, ia lf), (10, ia ha)]) rfl rfl rfl rfl rfl (cb.up (by decide)) rfl ?_
  refine RT_step (pc2 := 5) rfl (fun _ _ => rfl) ?_
  refine rt_ico rfl ki_m1 ?_
  refine RT_step (pc2 := 7) rfl (fun _ _ => rfl) ?_
  refine rt_ico rfl ki_0 ?_
  refine RT_step (pc2 := 10) rfl (fun _ _ => rfl) ?_
  refine rt_ico rfl ki_0 ?_
  refine RT_step (pc2 := 13) rfl (fun _ _ => rfl) ?_
  refine x_btA3 (dd := 0) (d := 0) hlen hbo hP hD lr ll lh hb (by omega) rfl rfl rfl rfl rfl rfl (fun L2 m0 m1 m2 m3 m4 m5 m7 => ?_)
  refine rt_ild rfl m3 ?_
  refine rt_ico rfl ki_m1 ?_
  refine biT_eq rfl rfl ?_
  refine rt_il2 rfl m5 ?_
  refine rt_ist rfl (by decide +kernel) ?_
  refine rt_il2 rfl (gs_o rfl m7 rfl) ?_
  refine rt_is2 rfl (by decide +kernel) ?_
  refine rt_inc rfl (gs_o rfl (gs_o rfl m5 rfl) rfl) (by decide +kernel) ?_
  rw [in_1]
  refine RT_step (pc2 := 13) rfl (fun _ _ => rfl) ?_
  exact x_btL23 (dd := 0) hlen hbo hP hD lr ll lh hb (Dn - 1) 1 0 _ (by omega) (by omega) (gs_o rfl (gs_o rfl (gs_o rfl m0 rfl) rfl) rfl) (gs_o rfl (gs_o rfl (gs_o rfl m1 rfl) rfl) rfl) (gs_o rfl (gs_o rfl (gs_o rfl m2 rfl) rfl) rfl) (gs_o rfl (gs_o rfl gs_n rfl) rfl) (gs_o rfl gs_n rfl) gs_n
theorem x_fiL3 {H : List AE} (hlen : Nat.ble 204 H.length = true) {s se ss : Nat} {lt fb tq gb : Int32} {lim a kd pl w : Nat} {le : Int64} {nu tk fa fp : Int32} {P Dn gl bo : Nat} {lw cl id : Int32} {ri lf ha : List Int32} {bs : List Int32} {B : Nat → Nat} (hB : BY bs B) (hb : ∀ i, B i < 256) (hbo : bo < 256) (hP : P ≤ 7) (hD : Dn ≤ 8) (lr : ri.length = 7) (ll : lf.length = 7) (lh : ha.length = 8) {m : Nat} (hm : m ≤ 6) (hd : ∀ i, i < m → B (2 * i) < Dn) {dd : Nat} {q : ev_R} : ∀ (r j b : Nat) (L : List (Nat × Value)), j + r = m → b < 2097152 → ev_g L 0 = some (.ref 0) → ev_g L 1 = some (.int (Int32.ofNat (2 * m))) → ev_g L 3 = some (.int (Int32.ofNat b)) → ev_g L 4 = some (.int (Int32.ofNat (2 * j))) → (∀ L2, ev_g L2 0 = some (.ref 0) → ev_g L2 3 = some (.int (Int32.ofNat (fbL (fun d => cbL (KK' bo d ri lf ha) (3 * P) 0 0) B r j b))) → RT MM (dd + 4) 20 130 L2 [] (ov H [(0, .inr (10, [.ref 1, .ref 3, .ref s, .ref 23, .ref 31, .ref 39, .ref 105, .ref se, .ref ss, .ref 120, .ref 125, .ref 129, .ref 131, .int lt, .int fb, .int tq, .int gb])), (1, tcl 0 lim a kd pl w le nu tk fa fp), (2, bcl bs), (3, dcl3 P Dn lw cl id gl bo), (5, ia ri), (6, ia lf), (10, ia ha)]) q) → RT MM (dd + 4) 20 71 L [] (ov H [(0, .inr (10, [.ref 1, .ref 3, .ref s, .ref 23, .ref 31, .ref 39, .ref 105, .ref se, .ref ss, .ref 120, .ref 125, .ref 129, .ref 131, .int lt, .int fb, .int tq, .int gb])), (1, tcl 0 lim a kd pl w le nu tk fa fp), (2, bcl bs), (3, dcl3 P Dn lw cl id gl bo), (5, ia ri), (6, ia lf), (10, ia ha)]) q := by
  intro r
  induction r with
  | zero =>
    intro j b L hj hb0 l0 l1 l3 l4 hq
    have hi : j = m := by omega
    subst hi
    refine rt_il2 rfl l4 ?_
    refine rt_ico rfl ki_1 ?_
    refine ba_iadd rfl ?_
    rw [n_add]
    refine rt_ild rfl l1 ?_
    refine biT_ge rfl (n_le (by omega) (by omega)) ?_
    exact hq _ l0 l3
  | succ r ih =>
    intro j b L hj hb0 l0 l1 l3 l4 hq
    have hdj := hd j (by omega)
    have hbv := hb (2 * j + 1)
    have cq := (x_cb3 (H := ov H [(0, .inr (10, [.ref 1, .ref 3, .ref s, .ref 23, .ref 31, .ref 39, .ref 105, .ref se, .ref ss, .ref 120, .ref 125, .ref 129, .ref 131, .int lt, .int fb, .int tq, .int gb])), (1, tcl 0 lim a kd pl w le nu tk fa fp), (2, bcl bs), (3, dcl3 P Dn lw cl id gl bo), (5, ia ri), (6, ia lf), (10, ia ha)]) (ov_hl hlen) hbo (d := B (2 * j)) (by omega) hP lr ll lh (ov_at rfl (ov_lt hlen (by decide))) (ov_at rfl (ov_lt hlen (by decide))) (ov_at rfl (ov_lt hlen (by decide))) (ov_at rfl (ov_lt hlen (by decide))))
    have hc9 : (fun d => cbL (KK' bo d ri lf ha) (3 * P) 0 0) (B (2 * j)) < 2097152 := cbL_lt (m := 21) (by omega) (by decide)
    by_cases c : B (2 * j + 1) = 1
    · rw [show fbL (fun d => cbL (KK' bo d ri lf ha) (3 * P) 0 0) B (r + 1) j b = fbL (fun d => cbL (KK' bo d ri lf ha) (3 * P) 0 0) B r (j + 1) (b &&& (fun d => cbL (KK' bo d ri lf ha) (3 * P) 0 0) (B (2 * j))) from congrArg (fbL (fun d => cbL (KK' bo d ri lf ha) (3 * P) 0 0) B r (j + 1)) (if_pos c)] at hq
      refine rt_il2 rfl l4 ?_
      refine rt_ico rfl ki_1 ?_
      refine ba_iadd rfl ?_
      rw [n_add]
      refine rt_ild rfl l1 ?_
      refine biF_ge rfl (n_nle (by omega) (by omega)) ?_
      refine rt_ald rfl l0 ?_
      refine ow_gf rfl rfl rfl hlen rfl ?_
      refine rt_ald rfl l0 ?_
      refine ow_gf rfl rfl rfl hlen rfl ?_
      refine rt_il2 rfl l4 ?_
      refine ow_iv1 (l2 := [(0, .inr (10, [.ref 1, .ref 3, .ref s, .ref 23, .ref 31, .ref 39, .ref 105, .ref se, .ref ss, .ref 120, .ref 125, .ref 129, .ref 131, .int lt, .int fb, .int tq, .int gb])), (1, tcl 0 lim a kd pl w le nu tk fa fp), (2, bcl bs), (3, dcl3 P Dn lw cl id gl bo), (5, ia ri), (6, ia lf), (10, ia ha)]) rfl rfl rfl rfl hlen rfl rfl rfl ((x_signAt (fs := _) (ov_at rfl (ov_lt hlen (by decide))) (ov_at rfl (ov_lt hlen (by decide))) hB (ov_hl hlen) (show 2 * j < 940 by omega)).up (by omega)) rfl ?_
      refine ow_iv1 (l2 := [(0, .inr (10, [.ref 1, .ref 3, .ref s, .ref 23, .ref 31, .ref 39, .ref 105, .ref se, .ref ss, .ref 120, .ref 125, .ref 129, .ref 131, .int lt, .int fb, .int tq, .int gb])), (1, tcl 0 lim a kd pl w le nu tk fa fp), (2, bcl bs), (3, dcl3 P Dn lw cl id gl bo), (5, ia ri), (6, ia lf), (10, ia ha)]) rfl rfl rfl rfl hlen rfl rfl rfl (cq.up (by omega)) rfl ?_
      refine rt_is2 rfl (by decide +kernel) ?_
      refine rt_ild rfl (gs_o rfl l3 rfl) ?_
      refine rt_ald rfl (gs_o rfl l0 rfl) ?_
      refine ow_gf rfl rfl rfl hlen rfl ?_
      refine rt_il2 rfl (gs_o rfl l4 rfl) ?_
      refine rt_ico rfl ki_1 ?_
      refine ba_iadd rfl ?_
      rw [n_add]
      refine ow_iv1 (l2 := [(0, .inr (10, [.ref 1, .ref 3, .ref s, .ref 23, .ref 31, .ref 39, .ref 105, .ref se, .ref ss, .ref 120, .ref 125, .ref 129, .ref 131, .int lt, .int fb, .int tq, .int gb])), (1, tcl 0 lim a kd pl w le nu tk fa fp), (2, bcl bs), (3, dcl3 P Dn lw cl id gl bo), (5, ia ri), (6, ia lf), (10, ia ha)]) rfl rfl rfl rfl hlen rfl rfl rfl ((x_signAt (fs := _) (ov_at rfl (ov_lt hlen (by decide))) (ov_at rfl (ov_lt hlen (by decide))) hB (ov_hl hlen) (show 2 * j + 1 < 940 by omega)).up (by omega)) rfl ?_
      refine rt_ico rfl ki_1 ?_
      refine biT_ne rfl (n_eq c) ?_
      refine rt_il2 rfl gs_n ?_
      refine RT_step (pc2 := 122) rfl (fun _ _ => rfl) ?_
      refine ba_iand rfl ?_
      rw [n_and]
      refine rt_ist rfl (by decide +kernel) ?_
      refine rt_inc rfl (gs_o rfl (gs_o rfl l4 rfl) rfl) (by decide +kernel) ?_
      rw [in_2, show 2 * j + 2 = 2 * (j + 1) by omega]
      refine RT_step (pc2 := 71) rfl (fun _ _ => rfl) ?_
      exact ih (j + 1) _ _ (by omega) (Nat.lt_of_le_of_lt Nat.and_le_left hb0) (gs_o rfl (gs_o rfl (gs_o rfl l0 rfl) rfl) rfl) (gs_o rfl (gs_o rfl (gs_o rfl l1 rfl) rfl) rfl) (gs_o rfl gs_n rfl) gs_n hq
    · rw [show fbL (fun d => cbL (KK' bo d ri lf ha) (3 * P) 0 0) B (r + 1) j b = fbL (fun d => cbL (KK' bo d ri lf ha) (3 * P) 0 0) B r (j + 1) (b &&& (2097152 - ((fun d => cbL (KK' bo d ri lf ha) (3 * P) 0 0) (B (2 * j)) + 1))) from congrArg (fbL (fun d => cbL (KK' bo d ri lf ha) (3 * P) 0 0) B r (j + 1)) (if_neg c)] at hq
      refine rt_il2 rfl l4 ?_
      refine rt_ico rfl ki_1 ?_
      refine ba_iadd rfl ?_
      rw [n_add]
      refine rt_ild rfl l1 ?_
      refine biF_ge rfl (n_nle (by omega) (by omega)) ?_
      refine rt_ald rfl l0 ?_
      refine ow_gf rfl rfl rfl hlen rfl ?_
      refine rt_ald rfl l0 ?_
      refine ow_gf rfl rfl rfl hlen rfl ?_
      refine rt_il2 rfl l4 ?_
      refine ow_iv1 (l2 := [(0, .inr (10, [.ref 1, .ref 3, .ref s, .ref 23, .ref 31, .ref 39, .ref 105, .ref se, .ref ss, .ref 120, .ref 125, .ref 129, .ref 131, .int lt, .int fb, .int tq, .int gb])), (1, tcl 0 lim a kd pl w le nu tk fa fp), (2, bcl bs), (3, dcl3 P Dn lw cl id gl bo), (5, ia ri), (6, ia lf), (10, ia ha)]) rfl rfl rfl rfl hlen rfl rfl rfl ((x_signAt (fs := _) (ov_at rfl (ov_lt hlen (by decide))) (ov_at rfl (ov_lt hlen (by decide))) hB (ov_hl hlen) (show 2 * j < 940 by omega)).up (by omega)) rfl ?_
      refine ow_iv1 (l2 := [(0, .inr (10, [.ref 1, .ref 3, .ref s, .ref 23, .ref 31, .ref 39, .ref 105, .ref se, .ref ss, .ref 120, .ref 125, .ref 129, .ref 131, .int lt, .int fb, .int tq, .int gb])), (1, tcl 0 lim a kd pl w le nu tk fa fp), (2, bcl bs), (3, dcl3 P Dn lw cl id gl bo), (5, ia ri), (6, ia lf), (10, ia ha)]) rfl rfl rfl rfl hlen rfl rfl rfl (cq.up (by omega)) rfl ?_
      refine rt_is2 rfl (by decide +kernel) ?_
      refine rt_ild rfl (gs_o rfl l3 rfl) ?_
      refine rt_ald rfl (gs_o rfl l0 rfl) ?_
      refine ow_gf rfl rfl rfl hlen rfl ?_
      refine rt_il2 rfl (gs_o rfl l4 rfl) ?_
      refine rt_ico rfl ki_1 ?_
      refine ba_iadd rfl ?_
      rw [n_add]
      refine ow_iv1 (l2 := [(0, .inr (10, [.ref 1, .ref 3, .ref s, .ref 23, .ref 31, .ref 39, .ref 105, .ref se, .ref ss, .ref 120, .ref 125, .ref 129, .ref 131, .int lt, .int fb, .int tq, .int gb])), (1, tcl 0 lim a kd pl w le nu tk fa fp), (2, bcl bs), (3, dcl3 P Dn lw cl id gl bo), (5, ia ri), (6, ia lf), (10, ia ha)]) rfl rfl rfl rfl hlen rfl rfl rfl ((x_signAt (fs := _) (ov_at rfl (ov_lt hlen (by decide))) (ov_at rfl (ov_lt hlen (by decide))) hB (ov_hl hlen) (show 2 * j + 1 < 940 by omega)).up (by omega)) rfl ?_
      refine rt_ico rfl ki_1 ?_
      refine biF_ne rfl (n_ne c (by omega) (by decide)) ?_
      refine rt_il2 rfl gs_n ?_
      refine rt_ico rfl ki_m1 ?_
      refine ba_ixor rfl ?_
      refine ba_iand rfl ?_
      rw [n_andn hb0 hc9]
      refine rt_ist rfl (by decide +kernel) ?_
      refine rt_inc rfl (gs_o rfl (gs_o rfl l4 rfl) rfl) (by decide +kernel) ?_
      rw [in_2, show 2 * j + 2 = 2 * (j + 1) by omega]
      refine RT_step (pc2 := 71) rfl (fun _ _ => rfl) ?_
      exact ih (j + 1) _ _ (by omega) (Nat.lt_of_le_of_lt Nat.and_le_left hb0) (gs_o rfl (gs_o rfl (gs_o rfl l0 rfl) rfl) rfl) (gs_o rfl (gs_o rfl (gs_o rfl l1 rfl) rfl) rfl) (gs_o rfl gs_n rfl) gs_n hq
theorem x_isD13 {H : List AE} (hlen : Nat.ble 204 H.length = true) {s se ss : Nat} {lt fb tq gb : Int32} {P Dn gl bo : Nat} {lw cl id : Int32} (h0 : H[0]? = some (.inr (10, [.ref 1, .ref 13, .ref s, .ref 23, .ref 31, .ref 39, .ref 105, .ref se, .ref ss, .ref 120, .ref 125, .ref 129, .ref 131, .int lt, .int fb, .int tq, .int gb]))) (h1 : H[13]? = some (dcl13 P Dn lw cl id gl bo)) (hD : Dn ≤ 8) {v : Nat} (hv : v < 256) : FR 1 26 [.ref 0, .int (Int32.ofNat v)] H (some (.int (b01 (decide (v < Dn)))), ov H []) := by
  refine FR_ov (l := [(0, .inr (10, [.ref 1, .ref 13, .ref s, .ref 23, .ref 31, .ref 39, .ref 105, .ref se, .ref ss, .ref 120, .ref 125, .ref 129, .ref 131, .int lt, .int fb, .int tq, .int gb])), (13, dcl13 P Dn lw cl id gl bo)]) (l2 := [(0, .inr (10, [.ref 1, .ref 13, .ref s, .ref 23, .ref 31, .ref 39, .ref 105, .ref se, .ref ss, .ref 120, .ref 125, .ref 129, .ref 131, .int lt, .int fb, .int tq, .int gb])), (13, dcl13 P Dn lw cl id gl bo)]) (ov_id h0 (ov_c1 h1)) rfl (ov_id h0 (ov_c1 h1)) ?_
  by_cases c : v < Dn
  · rw [decide_eq_true c]
    refine RT_step (pc2 := 1) rfl (fun _ _ => rfl) ?_
    refine bcF_lt rfl (n_ps (by omega)) ?_
    refine RT_step (pc2 := 5) rfl (fun _ _ => rfl) ?_
    refine RT_step (pc2 := 6) rfl (fun _ _ => rfl) ?_
    refine ow_gf rfl rfl rfl hlen rfl ?_
    refine ow_gf rfl rfl rfl hlen rfl ?_
    refine biF_ge rfl (n_nle (by omega) (by omega)) ?_
    refine rt_ico rfl ki_1 ?_
    refine RT_step (pc2 := 20) rfl (fun _ _ => rfl) ?_
    exact ow_irt rfl rfl rfl
  · rw [decide_eq_false c]
    refine RT_step (pc2 := 1) rfl (fun _ _ => rfl) ?_
    refine bcF_lt rfl (n_ps (by omega)) ?_
    refine RT_step (pc2 := 5) rfl (fun _ _ => rfl) ?_
    refine RT_step (pc2 := 6) rfl (fun _ _ => rfl) ?_
    refine ow_gf rfl rfl rfl hlen rfl ?_
    refine ow_gf rfl rfl rfl hlen rfl ?_
    refine biT_ge rfl (n_le (by omega) (by omega)) ?_
    refine rt_ico rfl ki_0 ?_
    exact ow_irt rfl rfl rfl
theorem x_tdL13 {H : List AE} (hlen : Nat.ble 204 H.length = true) {s se ss : Nat} {lt fb tq gb : Int32} {n lim a kd pl w : Nat} {le : Int64} {nu tk fa fp : Int32} {P Dn gl bo : Nat} {lw cl id : Int32} {bs : List Int32} {B : Nat → Nat} (hB : BY bs B) (hb : ∀ i, B i < 256) (hD : Dn ≤ 8) {m : Nat} (hn : n = 2 * m) (hn2 : n ≤ 12) {dd : Nat} : ∀ (r j : Nat) (L : List (Nat × Value)), j + r = m → ev_g L 0 = some (.ref 0) → ev_g L 1 = some (.int (Int32.ofNat 2)) → ev_g L 2 = some (.int (Int32.ofNat (2 * j))) → RT MM (dd + 1) 42 2 L [] (ov H [(0, .inr (10, [.ref 1, .ref 13, .ref s, .ref 23, .ref 31, .ref 39, .ref 105, .ref se, .ref ss, .ref 120, .ref 125, .ref 129, .ref 131, .int lt, .int fb, .int tq, .int gb])), (1, tcl n lim a kd pl w le nu tk fa fp), (2, bcl bs), (13, dcl13 P Dn lw cl id gl bo)]) (some (.int (b01 (aD B Dn r j))), ov H [(0, .inr (10, [.ref 1, .ref 13, .ref s, .ref 23, .ref 31, .ref 39, .ref 105, .ref se, .ref ss, .ref 120, .ref 125, .ref 129, .ref 131, .int lt, .int fb, .int tq, .int gb])), (1, tcl n lim a kd pl w le nu tk fa fp), (2, bcl bs), (13, dcl13 P Dn lw cl id gl bo)]) := by
  intro r
  induction r with
  | zero =>
    intro j L hj l0 l1 l2
    refine rt_ild rfl l2 ?_
    refine rt_ald rfl l0 ?_
    refine ow_gf rfl rfl rfl hlen rfl ?_
    refine ow_gf rfl rfl rfl hlen rfl ?_
    refine biT_ge rfl (n_le (by omega) (by omega)) ?_
    refine rt_ico rfl ki_1 ?_
    exact ow_irt rfl rfl rfl
  | succ r ih =>
    intro j L hj l0 l1 l2
    have cd := x_isD13 (H := ov H [(0, .inr (10, [.ref 1, .ref 13, .ref s, .ref 23, .ref 31, .ref 39, .ref 105, .ref se, .ref ss, .ref 120, .ref 125, .ref 129, .ref 131, .int lt, .int fb, .int tq, .int gb])), (1, tcl n lim a kd pl w le nu tk fa fp), (2, bcl bs), (13, dcl13 P Dn lw cl id gl bo)]) (ov_hl hlen) (ov_at rfl (ov_lt hlen (by decide))) (ov_at rfl (ov_lt hlen (by decide))) hD (hb (2 * j))
    by_cases c : B (2 * j) < Dn
    · rw [decide_eq_true c] at cd
      rw [show aD B Dn (r + 1) j = aD B Dn r (j + 1) from by show (decide (B (2 * j) < Dn) && aD B Dn r (j + 1)) = _; rw [decide_eq_true c, Bool.true_and]]
      refine rt_ild rfl l2 ?_
      refine rt_ald rfl l0 ?_
      refine ow_gf rfl rfl rfl hlen rfl ?_
      refine ow_gf rfl rfl rfl hlen rfl ?_
      refine biF_ge rfl (n_nle (by omega) (by omega)) ?_
      refine rt_ald rfl l0 ?_
      refine rt_ald rfl l0 ?_
      refine ow_gf rfl rfl rfl hlen rfl ?_
      refine rt_ild rfl l2 ?_
      refine ow_iv1 (l2 := [(0, .inr (10, [.ref 1, .ref 13, .ref s, .ref 23, .ref 31, .ref 39, .ref 105, .ref se, .ref ss, .ref 120, .ref 125, .ref 129, .ref 131, .int lt, .int fb, .int tq, .int gb])), (1, tcl n lim a kd pl w le nu tk fa fp), (2, bcl bs), (13, dcl13 P Dn lw cl id gl bo)]) rfl rfl rfl rfl hlen rfl rfl rfl ((x_signAt (fs := _) (ov_at rfl (ov_lt hlen (by decide))) (ov_at rfl (ov_lt hlen (by decide))) hB (ov_hl hlen) (show 2 * j < 940 by omega)).up (by omega)) rfl ?_
      refine ow_iv1 (l2 := [(0, .inr (10, [.ref 1, .ref 13, .ref s, .ref 23, .ref 31, .ref 39, .ref 105, .ref se, .ref ss, .ref 120, .ref 125, .ref 129, .ref 131, .int lt, .int fb, .int tq, .int gb])), (1, tcl n lim a kd pl w le nu tk fa fp), (2, bcl bs), (13, dcl13 P Dn lw cl id gl bo)]) rfl rfl rfl rfl hlen rfl rfl rfl (cd.up (by omega)) rfl ?_
      refine bcF_ne rfl (by decide) ?_
      refine rt_ild rfl l2 ?_
      refine rt_ild rfl l1 ?_
      refine ba_iadd rfl ?_
      rw [n_add, show 2 * j + 2 = 2 * (j + 1) by omega]
      refine rt_ist rfl (by decide +kernel) ?_
      refine RT_step (pc2 := 2) rfl (fun _ _ => rfl) ?_
      exact ih (j + 1) _ (by omega) (gs_o rfl l0 rfl) (gs_o rfl l1 rfl) gs_n
    · rw [decide_eq_false c] at cd
      rw [show aD B Dn (r + 1) j = false from by show (decide (B (2 * j) < Dn) && aD B Dn r (j + 1)) = _; rw [decide_eq_false c, Bool.false_and]]
      refine rt_ild rfl l2 ?_
      refine rt_ald rfl l0 ?_
      refine ow_gf rfl rfl rfl hlen rfl ?_
      refine ow_gf rfl rfl rfl hlen rfl ?_
      refine biF_ge rfl (n_nle (by omega) (by omega)) ?_
      refine rt_ald rfl l0 ?_
      refine rt_ald rfl l0 ?_
      refine ow_gf rfl rfl rfl hlen rfl ?_
      refine rt_ild rfl l2 ?_
      refine ow_iv1 (l2 := [(0, .inr (10, [.ref 1, .ref 13, .ref s, .ref 23, .ref 31, .ref 39, .ref 105, .ref se, .ref ss, .ref 120, .ref 125, .ref 129, .ref 131, .int lt, .int fb, .int tq, .int gb])), (1, tcl n lim a kd pl w le nu tk fa fp), (2, bcl bs), (13, dcl13 P Dn lw cl id gl bo)]) rfl rfl rfl rfl hlen rfl rfl rfl ((x_signAt (fs := _) (ov_at rfl (ov_lt hlen (by decide))) (ov_at rfl (ov_lt hlen (by decide))) hB (ov_hl hlen) (show 2 * j < 940 by omega)).up (by omega)) rfl ?_
      refine ow_iv1 (l2 := [(0, .inr (10, [.ref 1, .ref 13, .ref s, .ref 23, .ref 31, .ref 39, .ref 105, .ref se, .ref ss, .ref 120, .ref 125, .ref 129, .ref 131, .int lt, .int fb, .int tq, .int gb])), (1, tcl n lim a kd pl w le nu tk fa fp), (2, bcl bs), (13, dcl13 P Dn lw cl id gl bo)]) rfl rfl rfl rfl hlen rfl rfl rfl (cd.up (by omega)) rfl ?_
      refine bcT_ne rfl rfl ?_
      refine rt_ico rfl ki_0 ?_
      exact ow_irt rfl rfl rfl
theorem x_toL13 {H : List AE} (hlen : Nat.ble 204 H.length = true) {s se ss : Nat} {lt fb tq gb : Int32} {n lim a kd pl w : Nat} {le : Int64} {nu tk fa fp : Int32} {P Dn gl bo : Nat} {lw cl id : Int32} {bs : List Int32} {B : Nat → Nat} (hB : BY bs B) (hb : ∀ i, B i < 256) (hD : Dn ≤ 8) {m : Nat} (hn : n = 2 * m) (hn2 : n ≤ 12) {dd : Nat} : ∀ (r j : Nat) (L : List (Nat × Value)), j + r = m → ev_g L 0 = some (.ref 0) → ev_g L 1 = some (.int (Int32.ofNat (2 * j + 1))) → RT MM (dd + 1) 43 2 L [] (ov H [(0, .inr (10, [.ref 1, .ref 13, .ref s, .ref 23, .ref 31, .ref 39, .ref 105, .ref se, .ref ss, .ref 120, .ref 125, .ref 129, .ref 131, .int lt, .int fb, .int tq, .int gb])), (1, tcl n lim a kd pl w le nu tk fa fp), (2, bcl bs), (13, dcl13 P Dn lw cl id gl bo)]) (some (.int (b01 (aO B r j))), ov H [(0, .inr (10, [.ref 1, .ref 13, .ref s, .ref 23, .ref 31, .ref 39, .ref 105, .ref se, .ref ss, .ref 120, .ref 125, .ref 129, .ref 131, .int lt, .int fb, .int tq, .int gb])), (1, tcl n lim a kd pl w le nu tk fa fp), (2, bcl bs), (13, dcl13 P Dn lw cl id gl bo)]) := by
  intro r
  induction r with
  | zero =>
    intro j L hj l0 l1
    refine rt_ild rfl l1 ?_
    refine rt_ald rfl l0 ?_
    refine ow_gf rfl rfl rfl hlen rfl ?_
    refine ow_gf rfl rfl rfl hlen rfl ?_
    refine biT_ge rfl (n_le (by omega) (by omega)) ?_
    refine rt_ico rfl ki_1 ?_
    exact ow_irt rfl rfl rfl
  | succ r ih =>
    intro j L hj l0 l1
    have hv := hb (2 * j + 1)
    by_cases c : B (2 * j + 1) ≤ 1
    · rw [show aO B (r + 1) j = aO B r (j + 1) from by show (decide (B (2 * j + 1) ≤ 1) && aO B r (j + 1)) = _; rw [decide_eq_true c, Bool.true_and]]
      refine rt_ild rfl l1 ?_
      refine rt_ald rfl l0 ?_
      refine ow_gf rfl rfl rfl hlen rfl ?_
      refine ow_gf rfl rfl rfl hlen rfl ?_
      refine biF_ge rfl (n_nle (by omega) (by omega)) ?_
      refine rt_ald rfl l0 ?_
      refine ow_gf rfl rfl rfl hlen rfl ?_
      refine rt_ild rfl l1 ?_
      refine ow_iv1 (l2 := [(0, .inr (10, [.ref 1, .ref 13, .ref s, .ref 23, .ref 31, .ref 39, .ref 105, .ref se, .ref ss, .ref 120, .ref 125, .ref 129, .ref 131, .int lt, .int fb, .int tq, .int gb])), (1, tcl n lim a kd pl w le nu tk fa fp), (2, bcl bs), (13, dcl13 P Dn lw cl id gl bo)]) rfl rfl rfl rfl hlen rfl rfl rfl ((x_signAt (fs := _) (ov_at rfl (ov_lt hlen (by decide))) (ov_at rfl (ov_lt hlen (by decide))) hB (ov_hl hlen) (show 2 * j + 1 < 940 by omega)).up (by omega)) rfl ?_
      refine rt_ico rfl ki_1 ?_
      refine biT_le rfl (n_le c (by decide)) ?_
      refine rt_inc rfl l1 (by decide +kernel) ?_
      rw [in_2, show 2 * j + 1 + 2 = 2 * (j + 1) + 1 by omega]
      refine RT_step (pc2 := 2) rfl (fun _ _ => rfl) ?_
      exact ih (j + 1) _ (by omega) (gs_o rfl l0 rfl) gs_n
    · rw [show aO B (r + 1) j = false from by show (decide (B (2 * j + 1) ≤ 1) && aO B r (j + 1)) = _; rw [decide_eq_false c, Bool.false_and]]
      refine rt_ild rfl l1 ?_
      refine rt_ald rfl l0 ?_
      refine ow_gf rfl rfl rfl hlen rfl ?_
      refine ow_gf rfl rfl rfl hlen rfl ?_
      refine biF_ge rfl (n_nle (by omega) (by omega)) ?_
      refine rt_ald rfl l0 ?_
      refine ow_gf rfl rfl rfl hlen rfl ?_
      refine rt_ild rfl l1 ?_
      refine ow_iv1 (l2 := [(0, .inr (10, [.ref 1, .ref 13, .ref s, .ref 23, .ref 31, .ref 39, .ref 105, .ref se, .ref ss, .ref 120, .ref 125, .ref 129, .ref 131, .int lt, .int fb, .int tq, .int gb])), (1, tcl n lim a kd pl w le nu tk fa fp), (2, bcl bs), (13, dcl13 P Dn lw cl id gl bo)]) rfl rfl rfl rfl hlen rfl rfl rfl ((x_signAt (fs := _) (ov_at rfl (ov_lt hlen (by decide))) (ov_at rfl (ov_lt hlen (by decide))) hB (ov_hl hlen) (show 2 * j + 1 < 940 by omega)).up (by omega)) rfl ?_
      refine rt_ico rfl ki_1 ?_
      refine biF_le rfl (n_nle (by omega) (by omega)) ?_
      refine rt_ico rfl ki_0 ?_
      exact ow_irt rfl rfl rfl
theorem x_td13 {H : List AE} (hlen : Nat.ble 204 H.length = true) {s se ss : Nat} {lt fb tq gb : Int32} {n lim a kd pl w : Nat} {le : Int64} {nu tk fa fp : Int32} {P Dn gl bo : Nat} {lw cl id : Int32} {bs : List Int32} {B : Nat → Nat} (hB : BY bs B) (hb : ∀ i, B i < 256) (hD : Dn ≤ 8) {m : Nat} (hn : n = 2 * m) (hn2 : n ≤ 12) (h0 : H[0]? = some (.inr (10, [.ref 1, .ref 13, .ref s, .ref 23, .ref 31, .ref 39, .ref 105, .ref se, .ref ss, .ref 120, .ref 125, .ref 129, .ref 131, .int lt, .int fb, .int tq, .int gb]))) (h1 : H[1]? = some (tcl n lim a kd pl w le nu tk fa fp)) (h2 : H[2]? = some (bcl bs)) (h3 : H[13]? = some (dcl13 P Dn lw cl id gl bo)) : FR 2 42 [.ref 0, .int (Int32.ofNat 2)] H (some (.int (b01 (aD B Dn m 0))), ov H []) := by
  refine FR_ov (l := [(0, .inr (10, [.ref 1, .ref 13, .ref s, .ref 23, .ref 31, .ref 39, .ref 105, .ref se, .ref ss, .ref 120, .ref 125, .ref 129, .ref 131, .int lt, .int fb, .int tq, .int gb])), (1, tcl n lim a kd pl w le nu tk fa fp), (2, bcl bs), (13, dcl13 P Dn lw cl id gl bo)]) (l2 := [(0, .inr (10, [.ref 1, .ref 13, .ref s, .ref 23, .ref 31, .ref 39, .ref 105, .ref se, .ref ss, .ref 120, .ref 125, .ref 129, .ref 131, .int lt, .int fb, .int tq, .int gb])), (1, tcl n lim a kd pl w le nu tk fa fp), (2, bcl bs), (13, dcl13 P Dn lw cl id gl bo)]) (ov_id h0 (ov_id h1 (ov_id h2 (ov_c1 h3)))) rfl (ov_id h0 (ov_id h1 (ov_id h2 (ov_c1 h3)))) ?_
  refine rt_ico rfl ki_0 ?_
  refine RT_step (pc2 := 2) rfl (fun _ _ => rfl) ?_
  exact x_tdL13 (dd := 0) hlen hB hb hD hn hn2 m 0 _ (by omega) rfl rfl rfl
theorem x_to13 {H : List AE} (hlen : Nat.ble 204 H.length = true) {s se ss : Nat} {lt fb tq gb : Int32} {n lim a kd pl w : Nat} {le : Int64} {nu tk fa fp : Int32} {P Dn gl bo : Nat} {lw cl id : Int32} {bs : List Int32} {B : Nat → Nat} (hB : BY bs B) (hb : ∀ i, B i < 256) (hD : Dn ≤ 8) {m : Nat} (hn : n = 2 * m) (hn2 : n ≤ 12) (h0 : H[0]? = some (.inr (10, [.ref 1, .ref 13, .ref s, .ref 23, .ref 31, .ref 39, .ref 105, .ref se, .ref ss, .ref 120, .ref 125, .ref 129, .ref 131, .int lt, .int fb, .int tq, .int gb]))) (h1 : H[1]? = some (tcl n lim a kd pl w le nu tk fa fp)) (h2 : H[2]? = some (bcl bs)) (h3 : H[13]? = some (dcl13 P Dn lw cl id gl bo)) : FR 2 43 [.ref 0] H (some (.int (b01 (aO B m 0))), ov H []) := by
  refine FR_ov (l := [(0, .inr (10, [.ref 1, .ref 13, .ref s, .ref 23, .ref 31, .ref 39, .ref 105, .ref se, .ref ss, .ref 120, .ref 125, .ref 129, .ref 131, .int lt, .int fb, .int tq, .int gb])), (1, tcl n lim a kd pl w le nu tk fa fp), (2, bcl bs), (13, dcl13 P Dn lw cl id gl bo)]) (l2 := [(0, .inr (10, [.ref 1, .ref 13, .ref s, .ref 23, .ref 31, .ref 39, .ref 105, .ref se, .ref ss, .ref 120, .ref 125, .ref 129, .ref 131, .int lt, .int fb, .int tq, .int gb])), (1, tcl n lim a kd pl w le nu tk fa fp), (2, bcl bs), (13, dcl13 P Dn lw cl id gl bo)]) (ov_id h0 (ov_id h1 (ov_id h2 (ov_c1 h3)))) rfl (ov_id h0 (ov_id h1 (ov_id h2 (ov_c1 h3)))) ?_
  refine rt_ico rfl ki_1 ?_
  refine RT_step (pc2 := 2) rfl (fun _ _ => rfl) ?_
  exact x_toL13 (dd := 0) hlen hB hb hD hn hn2 m 0 _ (by omega) rfl rfl
theorem x_btA13 {H : List AE} (hlen : Nat.ble 204 H.length = true) {P Dn gl bo : Nat} {lw cl id : Int32} {ri lf ha : List Int32} (hbo : bo < 256) (hP : P ≤ 7) (hD : Dn ≤ 8) (lr : ri.length = 7) (ll : lf.length = 7) (lh : ha.length = 8) {b : Nat} (hb : b < 2097152) {dd d : Nat} (hd : d < Dn) {q : ev_R} {L : List (Nat × Value)} {v3 v4 : Int32} (l0 : ev_g L 0 = some (.ref 13)) (l1 : ev_g L 1 = some (.int (Int32.ofNat b))) (l2 : ev_g L 2 = some (.int (Int32.ofNat (cnt b 21)))) (l3 : ev_g L 3 = some (.int v3)) (l4 : ev_g L 4 = some (.int v4)) (l5 : ev_g L 5 = some (.int (Int32.ofNat d))) (hq : ∀ L2, ev_g L2 0 = some (.ref 13) → ev_g L2 1 = some (.int (Int32.ofNat b)) → ev_g L2 2 = some (.int (Int32.ofNat (cnt b 21))) → ev_g L2 3 = some (.int v3) → ev_g L2 4 = some (.int v4) → ev_g L2 5 = some (.int (Int32.ofNat d)) → ev_g L2 7 = some (.int (Int32.ofNat ((fun d => dif (cnt (b &&& cbL (KK' bo d ri lf ha) (3 * P) 0 0) 21) (cnt b 21)) d))) → RT MM (dd + 4) 59 47 L2 [] (ov H [(13, dcl13 P Dn lw cl id gl bo), (15, ia ri), (16, ia lf), (20, ia ha)]) q) : RT MM (dd + 4) 59 13 L [] (ov H [(13, dcl13 P Dn lw cl id gl bo), (15, ia ri), (16, ia lf), (20, ia ha)]) q := by
  have c1 := cnt_le (b := b) 21
  have c2 := cnt_le (b := b &&& (cbL (KK' bo d ri lf ha) (3 * P) 0 0)) 21
  have hbc : b &&& (cbL (KK' bo d ri lf ha) (3 * P) 0 0) < 2097152 := Nat.lt_of_le_of_lt Nat.and_le_left hb
  have cq := (x_cb13 (H := ov H [(13, dcl13 P Dn lw cl id gl bo), (15, ia ri), (16, ia lf), (20, ia ha)]) (ov_hl hlen) hbo (d := d) (by omega) hP lr ll lh (ov_at rfl (ov_lt hlen (by decide))) (ov_at rfl (ov_lt hlen (by decide))) (ov_at rfl (ov_lt hlen (by decide))) (ov_at rfl (ov_lt hlen (by decide))))
  have cb := x_bc (H := ov H [(13, dcl13 P Dn lw cl id gl bo), (15, ia ri), (16, ia lf), (20, ia ha)]) (Int32.ofNat (b &&& (cbL (KK' bo d ri lf ha) (3 * P) 0 0)))
  rw [bc_21 hbc] at cb
  have ca := x_abs (H := ov H [(13, dcl13 P Dn lw cl id gl bo), (15, ia ri), (16, ia lf), (20, ia ha)]) (Int32.ofNat (cnt (b &&& (cbL (KK' bo d ri lf ha) (3 * P) 0 0)) 21) - (Int32.ofNat (cnt b 21) - Int32.ofNat (cnt (b &&& (cbL (KK' bo d ri lf ha) (3 * P) 0 0)) 21)))
  rw [ab_1 _ (by omega) _ (by omega)] at ca
  refine rt_il2 rfl l5 ?_
  refine rt_ald rfl l0 ?_
  refine ow_gf rfl rfl rfl hlen rfl ?_
  refine biF_ge rfl (n_nle (by omega) (by omega)) ?_
  refine rt_ild rfl l1 ?_
  refine rt_ald rfl l0 ?_
  refine rt_il2 rfl l5 ?_
  refine ow_iv1 (l2 := [(13, dcl13 P Dn lw cl id gl bo), (15, ia ri), (16, ia lf), (20, ia ha)]) rfl rfl rfl rfl hlen rfl rfl rfl (cq.up (by omega)) rfl ?_
  refine ba_iand rfl ?_
  rw [n_and]
  refine ow_is1 (l2 := [(13, dcl13 P Dn lw cl id gl bo), (15, ia ri), (16, ia lf), (20, ia ha)]) rfl rfl rfl rfl rfl (cb.up (by omega)) rfl ?_
  refine rt_is2 rfl (by decide +kernel) ?_
  refine rt_il2 rfl gs_n ?_
  refine rt_ild rfl (gs_o rfl l2 rfl) ?_
  refine rt_il2 rfl gs_n ?_
  refine ba_isub rfl ?_
  refine ba_isub rfl ?_
  refine ow_is1 (l2 := [(13, dcl13 P Dn lw cl id gl bo), (15, ia ri), (16, ia lf), (20, ia ha)]) rfl rfl rfl rfl rfl (ca.up (by omega)) rfl ?_
  refine rt_is2 rfl (by decide +kernel) ?_
  exact hq _ (gs_o rfl (gs_o rfl l0 rfl) rfl) (gs_o rfl (gs_o rfl l1 rfl) rfl) (gs_o rfl (gs_o rfl l2 rfl) rfl) (gs_o rfl (gs_o rfl l3 rfl) rfl) (gs_o rfl (gs_o rfl l4 rfl) rfl) (gs_o rfl (gs_o rfl l5 rfl) rfl) gs_n
theorem x_btL213 {H : List AE} (hlen : Nat.ble 204 H.length = true) {P Dn gl bo : Nat} {lw cl id : Int32} {ri lf ha : List Int32} (hbo : bo < 256) (hP : P ≤ 7) (hD : Dn ≤ 8) (lr : ri.length = 7) (ll : lf.length = 7) (lh : ha.length = 8) {b : Nat} (hb : b < 2097152) {dd : Nat} : ∀ (r d t : Nat) (L : List (Nat × Value)), d + r = Dn → t < 8 → ev_g L 0 = some (.ref 13) → ev_g L 1 = some (.int (Int32.ofNat b)) → ev_g L 2 = some (.int (Int32.ofNat (cnt b 21))) → ev_g L 3 = some (.int (Int32.ofNat t)) → ev_g L 4 = some (.int (Int32.ofNat ((fun d => dif (cnt (b &&& cbL (KK' bo d ri lf ha) (3 * P) 0 0) 21) (cnt b 21)) t))) → ev_g L 5 = some (.int (Int32.ofNat d)) → RT MM (dd + 4) 59 13 L [] (ov H [(13, dcl13 P Dn lw cl id gl bo), (15, ia ri), (16, ia lf), (20, ia ha)]) (some (.int (Int32.ofNat (mnF (fun d => dif (cnt (b &&& cbL (KK' bo d ri lf ha) (3 * P) 0 0) 21) (cnt b 21)) r d t))), ov H [(13, dcl13 P Dn lw cl id gl bo), (15, ia ri), (16, ia lf), (20, ia ha)]) := by
  intro r
  induction r with
  | zero =>
    intro d t L hd ht l0 l1 l2 l3 l4 l5
    have hi : d = Dn := by omega
    subst hi
    refine rt_il2 rfl l5 ?_
    refine rt_ald rfl l0 ?_
    refine ow_gf rfl rfl rfl hlen rfl ?_
    refine biT_ge rfl (n_le (Nat.le_refl _) (by omega)) ?_
    refine rt_ild rfl l3 ?_
    exact ow_irt rfl rfl rfl
  | succ r ih =>
    intro d t L hd ht l0 l1 l2 l3 l4 l5
    refine x_btA13 hlen hbo hP hD lr ll lh hb (d := d) (by omega) l0 l1 l2 l3 l4 l5 (fun L2 m0 m1 m2 m3 m4 m5 m7 => ?_)
    have k1 : (fun d => dif (cnt (b &&& cbL (KK' bo d ri lf ha) (3 * P) 0 0) 21) (cnt b 21)) d < 100 := dif_lt _ (by have := cnt_le (b := b &&& (cbL (KK' bo d ri lf ha) (3 * P) 0 0)) 21; omega) _ (by have := cnt_le (b := b) 21; omega)
    have k2 : (fun d => dif (cnt (b &&& cbL (KK' bo d ri lf ha) (3 * P) 0 0) 21) (cnt b 21)) t < 100 := dif_lt _ (by have := cnt_le (b := b &&& (cbL (KK' bo t ri lf ha) (3 * P) 0 0)) 21; omega) _ (by have := cnt_le (b := b) 21; omega)
    by_cases c : (fun d => dif (cnt (b &&& cbL (KK' bo d ri lf ha) (3 * P) 0 0) 21) (cnt b 21)) d < (fun d => dif (cnt (b &&& cbL (KK' bo d ri lf ha) (3 * P) 0 0) 21) (cnt b 21)) t
    · rw [show mnF (fun d => dif (cnt (b &&& cbL (KK' bo d ri lf ha) (3 * P) 0 0) 21) (cnt b 21)) (r + 1) d t = mnF (fun d => dif (cnt (b &&& cbL (KK' bo d ri lf ha) (3 * P) 0 0) 21) (cnt b 21)) r (d + 1) d from congrArg (mnF (fun d => dif (cnt (b &&& cbL (KK' bo d ri lf ha) (3 * P) 0 0) 21) (cnt b 21)) r (d + 1)) (if_pos c)]
      refine rt_ild rfl m3 ?_
      refine rt_ico rfl ki_m1 ?_
      refine biF_eq rfl (n_m1 (by omega)) ?_
      refine rt_il2 rfl m7 ?_
      refine rt_il2 rfl m4 ?_
      refine biF_ge rfl (n_nle c (Nat.lt_trans k2 (by decide))) ?_
      refine rt_il2 rfl m5 ?_
      refine rt_ist rfl (by decide +kernel) ?_
      refine rt_il2 rfl (gs_o rfl m7 rfl) ?_
      refine rt_is2 rfl (by decide +kernel) ?_
      refine rt_inc rfl (gs_o rfl (gs_o rfl m5 rfl) rfl) (by decide +kernel) ?_
      rw [in_1]
      refine RT_step (pc2 := 13) rfl (fun _ _ => rfl) ?_
      exact ih (d + 1) d _ (by omega) (by omega) (gs_o rfl (gs_o rfl (gs_o rfl m0 rfl) rfl) rfl) (gs_o rfl (gs_o rfl (gs_o rfl m1 rfl) rfl) rfl) (gs_o rfl (gs_o rfl (gs_o rfl m2 rfl) rfl) rfl) (gs_o rfl (gs_o rfl gs_n rfl) rfl) (gs_o rfl gs_n rfl) gs_n
    · rw [show mnF (fun d => dif (cnt (b &&& cbL (KK' bo d ri lf ha) (3 * P) 0 0) 21) (cnt b 21)) (r + 1) d t = mnF (fun d => dif (cnt (b &&& cbL (KK' bo d ri lf ha) (3 * P) 0 0) 21) (cnt b 21)) r (d + 1) t from congrArg (mnF (fun d => dif (cnt (b &&& cbL (KK' bo d ri lf ha) (3 * P) 0 0) 21) (cnt b 21)) r (d + 1)) (if_neg c)]
      refine rt_ild rfl m3 ?_
      refine rt_ico rfl ki_m1 ?_
      refine biF_eq rfl (n_m1 (by omega)) ?_
      refine rt_il2 rfl m7 ?_
      refine rt_il2 rfl m4 ?_
      refine biT_ge rfl (n_le (Nat.le_of_not_lt c) (by omega)) ?_
      refine rt_inc rfl m5 (by decide +kernel) ?_
      rw [in_1]
      refine RT_step (pc2 := 13) rfl (fun _ _ => rfl) ?_
      exact ih (d + 1) t _ (by omega) ht (gs_o rfl m0 rfl) (gs_o rfl m1 rfl) (gs_o rfl m2 rfl) (gs_o rfl m3 rfl) (gs_o rfl m4 rfl) gs_n
theorem x_bt213 {H : List AE} (hlen : Nat.ble 204 H.length = true) {P Dn gl bo : Nat} {lw cl id : Int32} {ri lf ha : List Int32} (hbo : bo < 256) (hP : P ≤ 7) (hD : Dn ≤ 8) (lr : ri.length = 7) (ll : lf.length = 7) (lh : ha.length = 8) {b : Nat} (hb : b < 2097152) (h8 : 1 ≤ Dn) (h1 : H[13]? = some (dcl13 P Dn lw cl id gl bo)) (h2 : H[15]? = some (ia ri)) (h3 : H[16]? = some (ia lf)) (h4 : H[20]? = some (ia ha)) : FR 5 59 [.ref 13, .int (Int32.ofNat b)] H (some (.int (Int32.ofNat (mnF (fun d => dif (cnt (b &&& cbL (KK' bo d ri lf ha) (3 * P) 0 0) 21) (cnt b 21)) (Dn - 1) 1 0))), ov H []) := by
  have cb := x_bc (H := ov H [(13, dcl13 P Dn lw cl id gl bo), (15, ia ri), (16, ia lf), (20, ia ha)]) (Int32.ofNat b)
  rw [bc_21 hb] at cb
  refine FR_ov (l := [(13, dcl13 P Dn lw cl id gl bo), (15, ia ri), (16, ia lf), (20, ia ha)]) (l2 := [(13, dcl13 P Dn lw cl id gl bo), (15, ia ri), (16, ia lf), (20, ia ha)]) (ov_id h1 (ov_id h2 (ov_id h3 (ov_c1 h4)))) rfl (ov_id h1 (ov_id h2 (ov_id h3 (ov_c1 h4)))) ?_
  refine RT_step (pc2 := 1) rfl (fun _ _ => rfl) ?_
  refine ow_is1 (l2 := [(13, dcl13 P Dn lw cl id gl bo), (15, ia ri), (16, ia lf), (20, ia ha)]) rfl rfl rfl rfl rfl (cb.up (by decide)) rfl ?_
  refine RT_step (pc2 := 5) rfl (fun _ _ => rfl) ?_
  refine rt_ico rfl ki_m1 ?_
  refine RT_step (pc2 := 7) rfl (fun _ _ => rfl) ?_
  refine rt_ico rfl ki_0 ?_
  refine RT_step (pc2 := 10) rfl (fun _ _ => rfl) ?_
  refine rt_ico rfl ki_0 ?_
  refine RT_step (pc2 := 13) rfl (fun _ _ => rfl) ?_
  refine x_btA13 (dd := 0) (d := 0) hlen hbo hP hD lr ll lh hb (by omega) rfl rfl rfl rfl rfl rfl (fun L2 m0 m1 m2 m3 m4 m5 m7 => ?_)
  refine rt_ild rfl m3 ?_
  refine rt_ico rfl ki_m1 ?_
  refine biT_eq rfl rfl ?_
  refine rt_il2 rfl m5 ?_
  refine rt_ist rfl (by decide +kernel) ?_
  refine rt_il2 rfl (gs_o rfl m7 rfl) ?_
  refine rt_is2 rfl (by decide +kernel) ?_
  refine rt_inc rfl (gs_o rfl (gs_o rfl m5 rfl) rfl) (by decide +kernel) ?_
  rw [in_1]
  refine RT_step (pc2 := 13) rfl (fun _ _ => rfl) ?_
  exact x_btL213 (dd := 0) hlen hbo hP hD lr ll lh hb (Dn - 1) 1 0 _ (by omega) (by omega) (gs_o rfl (gs_o rfl (gs_o rfl m0 rfl) rfl) rfl) (gs_o rfl (gs_o rfl (gs_o rfl m1 rfl) rfl) rfl) (gs_o rfl (gs_o rfl (gs_o rfl m2 rfl) rfl) rfl) (gs_o rfl (gs_o rfl gs_n rfl) rfl) (gs_o rfl gs_n rfl) gs_n
theorem x_fiL13 {H : List AE} (hlen : Nat.ble 204 H.length = true) {s se ss : Nat} {lt fb tq gb : Int32} {lim a kd pl w : Nat} {le : Int64} {nu tk fa fp : Int32} {P Dn gl bo : Nat} {lw cl id : Int32} {ri lf ha : List Int32} {bs : List Int32} {B : Nat → Nat} (hB : BY bs B) (hb : ∀ i, B i < 256) (hbo : bo < 256) (hP : P ≤ 7) (hD : Dn ≤ 8) (lr : ri.length = 7) (ll : lf.length = 7) (lh : ha.length = 8) {m : Nat} (hm : m ≤ 6) (hd : ∀ i, i < m → B (2 * i) < Dn) {dd : Nat} {q : ev_R} : ∀ (r j b : Nat) (L : List (Nat × Value)), j + r = m → b < 2097152 → ev_g L 0 = some (.ref 0) → ev_g L 1 = some (.int (Int32.ofNat (2 * m))) → ev_g L 3 = some (.int (Int32.ofNat b)) → ev_g L 4 = some (.int (Int32.ofNat (2 * j))) → (∀ L2, ev_g L2 0 = some (.ref 0) → ev_g L2 3 = some (.int (Int32.ofNat (fbL (fun d => cbL (KK' bo d ri lf ha) (3 * P) 0 0) B r j b))) → RT MM (dd + 4) 20 130 L2 [] (ov H [(0, .inr (10, [.ref 1, .ref 13, .ref s, .ref 23, .ref 31, .ref 39, .ref 105, .ref se, .ref ss, .ref 120, .ref 125, .ref 129, .ref 131, .int lt, .int fb, .int tq, .int gb])), (1, tcl 0 lim a kd pl w le nu tk fa fp), (2, bcl bs), (13, dcl13 P Dn lw cl id gl bo), (15, ia ri), (16, ia lf), (20, ia ha)]) q) → RT MM (dd + 4) 20 71 L [] (ov H [(0, .inr (10, [.ref 1, .ref 13, .ref s, .ref 23, .ref 31, .ref 39, .ref 105, .ref se, .ref ss, .ref 120, .ref 125, .ref 129, .ref 131, .int lt, .int fb, .int tq, .int gb])), (1, tcl 0 lim a kd pl w le nu tk fa fp), (2, bcl bs), (13, dcl13 P Dn lw cl id gl bo), (15, ia ri), (16, ia lf), (20, ia ha)]) q := by
  intro r
  induction r with
  | zero =>
    intro j b L hj hb0 l0 l1 l3 l4 hq
    have hi : j = m := by omega
    subst hi
    refine rt_il2 rfl l4 ?_
    refine rt_ico rfl ki_1 ?_
    refine ba_iadd rfl ?_
    rw [n_add]
    refine rt_ild rfl l1 ?_
    refine biT_ge rfl (n_le (by omega) (by omega)) ?_
    exact hq _ l0 l3
  | succ r ih =>
    intro j b L hj hb0 l0 l1 l3 l4 hq
    have hdj := hd j (by omega)
    have hbv := hb (2 * j + 1)
    have cq := (x_cb13 (H := ov H [(0, .inr (10, [.ref 1, .ref 13, .ref s, .ref 23, .ref 31, .ref 39, .ref 105, .ref se, .ref ss, .ref 120, .ref 125, .ref 129, .ref 131, .int lt, .int fb, .int tq, .int gb])), (1, tcl 0 lim a kd pl w le nu tk fa fp), (2, bcl bs), (13, dcl13 P Dn lw cl id gl bo), (15, ia ri), (16, ia lf), (20, ia ha)]) (ov_hl hlen) hbo (d := B (2 * j)) (by omega) hP lr ll lh (ov_at rfl (ov_lt hlen (by decide))) (ov_at rfl (ov_lt hlen (by decide))) (ov_at rfl (ov_lt hlen (by decide))) (ov_at rfl (ov_lt hlen (by decide))))
    have hc9 : (fun d => cbL (KK' bo d ri lf ha) (3 * P) 0 0) (B (2 * j)) < 2097152 := cbL_lt (m := 21) (by omega) (by decide)
    by_cases c : B (2 * j + 1) = 1
    · rw [show fbL (fun d => cbL (KK' bo d ri lf ha) (3 * P) 0 0) B (r + 1) j b = fbL (fun d => cbL (KK' bo d ri lf ha) (3 * P) 0 0) B r (j + 1) (b &&& (fun d => cbL (KK' bo d ri lf ha) (3 * P) 0 0) (B (2 * j))) from congrArg (fbL (fun d => cbL (KK' bo d ri lf ha) (3 * P) 0 0) B r (j + 1)) (if_pos c)] at hq
      refine rt_il2 rfl l4 ?_
      refine rt_ico rfl ki_1 ?_
      refine ba_iadd rfl ?_
      rw [n_add]
      refine rt_ild rfl l1 ?_
      refine biF_ge rfl (n_nle (by omega) (by omega)) ?_
      refine rt_ald rfl l0 ?_
      refine ow_gf rfl rfl rfl hlen rfl ?_
      refine rt_ald rfl l0 ?_
      refine ow_gf rfl rfl rfl hlen rfl ?_
      refine rt_il2 rfl l4 ?_
      refine ow_iv1 (l2 := [(0, .inr (10, [.ref 1, .ref 13, .ref s, .ref 23, .ref 31, .ref 39, .ref 105, .ref se, .ref ss, .ref 120, .ref 125, .ref 129, .ref 131, .int lt, .int fb, .int tq, .int gb])), (1, tcl 0 lim a kd pl w le nu tk fa fp), (2, bcl bs), (13, dcl13 P Dn lw cl id gl bo), (15, ia ri), (16, ia lf), (20, ia ha)]) rfl rfl rfl rfl hlen rfl rfl rfl ((x_signAt (fs := _) (ov_at rfl (ov_lt hlen (by decide))) (ov_at rfl (ov_lt hlen (by decide))) hB (ov_hl hlen) (show 2 * j < 940 by omega)).up (by omega)) rfl ?_
      refine ow_iv1 (l2 := [(0, .inr (10, [.ref 1, .ref 13, .ref s, .ref 23, .ref 31, .ref 39, .ref 105, .ref se, .ref ss, .ref 120, .ref 125, .ref 129, .ref 131, .int lt, .int fb, .int tq, .int gb])), (1, tcl 0 lim a kd pl w le nu tk fa fp), (2, bcl bs), (13, dcl13 P Dn lw cl id gl bo), (15, ia ri), (16, ia lf), (20, ia ha)]) rfl rfl rfl rfl hlen rfl rfl rfl (cq.up (by omega)) rfl ?_
      refine rt_is2 rfl (by decide +kernel) ?_
      refine rt_ild rfl (gs_o rfl l3 rfl) ?_
      refine rt_ald rfl (gs_o rfl l0 rfl) ?_
      refine ow_gf rfl rfl rfl hlen rfl ?_
      refine rt_il2 rfl (gs_o rfl l4 rfl) ?_
      refine rt_ico rfl ki_1 ?_
      refine ba_iadd rfl ?_
      rw [n_add]
      refine ow_iv1 (l2 := [(0, .inr (10, [.ref 1, .ref 13, .ref s, .ref 23, .ref 31, .ref 39, .ref 105, .ref se, .ref ss, .ref 120, .ref 125, .ref 129, .ref 131, .int lt, .int fb, .int tq, .int gb])), (1, tcl 0 lim a kd pl w le nu tk fa fp), (2, bcl bs), (13, dcl13 P Dn lw cl id gl bo), (15, ia ri), (16, ia lf), (20, ia ha)]) rfl rfl rfl rfl hlen rfl rfl rfl ((x_signAt (fs := _) (ov_at rfl (ov_lt hlen (by decide))) (ov_at rfl (ov_lt hlen (by decide))) hB (ov_hl hlen) (show 2 * j + 1 < 940 by omega)).up (by omega)) rfl ?_
      refine rt_ico rfl ki_1 ?_
      refine biT_ne rfl (n_eq c) ?_
      refine rt_il2 rfl gs_n ?_
      refine RT_step (pc2 := 122) rfl (fun _ _ => rfl) ?_
      refine ba_iand rfl ?_
      rw [n_and]
      refine rt_ist rfl (by decide +kernel) ?_
      refine rt_inc rfl (gs_o rfl (gs_o rfl l4 rfl) rfl) (by decide +kernel) ?_
      rw [in_2, show 2 * j + 2 = 2 * (j + 1) by omega]
      refine RT_step (pc2 := 71) rfl (fun _ _ => rfl) ?_
      exact ih (j + 1) _ _ (by omega) (Nat.lt_of_le_of_lt Nat.and_le_left hb0) (gs_o rfl (gs_o rfl (gs_o rfl l0 rfl) rfl) rfl) (gs_o rfl (gs_o rfl (gs_o rfl l1 rfl) rfl) rfl) (gs_o rfl gs_n rfl) gs_n hq
    · rw [show fbL (fun d => cbL (KK' bo d ri lf ha) (3 * P) 0 0) B (r + 1) j b = fbL (fun d => cbL (KK' bo d ri lf ha) (3 * P) 0 0) B r (j + 1) (b &&& (2097152 - ((fun d => cbL (KK' bo d ri lf ha) (3 * P) 0 0) (B (2 * j)) + 1))) from congrArg (fbL (fun d => cbL (KK' bo d ri lf ha) (3 * P) 0 0) B r (j + 1)) (if_neg c)] at hq
      refine rt_il2 rfl l4 ?_
      refine rt_ico rfl ki_1 ?_
      refine ba_iadd rfl ?_
      rw [n_add]
      refine rt_ild rfl l1 ?_
      refine biF_ge rfl (n_nle (by omega) (by omega)) ?_
      refine rt_ald rfl l0 ?_
      refine ow_gf rfl rfl rfl hlen rfl ?_
      refine rt_ald rfl l0 ?_
      refine ow_gf rfl rfl rfl hlen rfl ?_
      refine rt_il2 rfl l4 ?_
      refine ow_iv1 (l2 := [(0, .inr (10, [.ref 1, .ref 13, .ref s, .ref 23, .ref 31, .ref 39, .ref 105, .ref se, .ref ss, .ref 120, .ref 125, .ref 129, .ref 131, .int lt, .int fb, .int tq, .int gb])), (1, tcl 0 lim a kd pl w le nu tk fa fp), (2, bcl bs), (13, dcl13 P Dn lw cl id gl bo), (15, ia ri), (16, ia lf), (20, ia ha)]) rfl rfl rfl rfl hlen rfl rfl rfl ((x_signAt (fs := _) (ov_at rfl (ov_lt hlen (by decide))) (ov_at rfl (ov_lt hlen (by decide))) hB (ov_hl hlen) (show 2 * j < 940 by omega)).up (by omega)) rfl ?_
      refine ow_iv1 (l2 := [(0, .inr (10, [.ref 1, .ref 13, .ref s, .ref 23, .ref 31, .ref 39, .ref 105, .ref se, .ref ss, .ref 120, .ref 125, .ref 129, .ref 131, .int lt, .int fb, .int tq, .int gb])), (1, tcl 0 lim a kd pl w le nu tk fa fp), (2, bcl bs), (13, dcl13 P Dn lw cl id gl bo), (15, ia ri), (16, ia lf), (20, ia ha)]) rfl rfl rfl rfl hlen rfl rfl rfl (cq.up (by omega)) rfl ?_
      refine rt_is2 rfl (by decide +kernel) ?_
      refine rt_ild rfl (gs_o rfl l3 rfl) ?_
      refine rt_ald rfl (gs_o rfl l0 rfl) ?_
      refine ow_gf rfl rfl rfl hlen rfl ?_
      refine rt_il2 rfl (gs_o rfl l4 rfl) ?_
      refine rt_ico rfl ki_1 ?_
      refine ba_iadd rfl ?_
      rw [n_add]
      refine ow_iv1 (l2 := [(0, .inr (10, [.ref 1, .ref 13, .ref s, .ref 23, .ref 31, .ref 39, .ref 105, .ref se, .ref ss, .ref 120, .ref 125, .ref 129, .ref 131, .int lt, .int fb, .int tq, .int gb])), (1, tcl 0 lim a kd pl w le nu tk fa fp), (2, bcl bs), (13, dcl13 P Dn lw cl id gl bo), (15, ia ri), (16, ia lf), (20, ia ha)]) rfl rfl rfl rfl hlen rfl rfl rfl ((x_signAt (fs := _) (ov_at rfl (ov_lt hlen (by decide))) (ov_at rfl (ov_lt hlen (by decide))) hB (ov_hl hlen) (show 2 * j + 1 < 940 by omega)).up (by omega)) rfl ?_
      refine rt_ico rfl ki_1 ?_
      refine biF_ne rfl (n_ne c (by omega) (by decide)) ?_
      refine rt_il2 rfl gs_n ?_
      refine rt_ico rfl ki_m1 ?_
      refine ba_ixor rfl ?_
      refine ba_iand rfl ?_
      rw [n_andn hb0 hc9]
      refine rt_ist rfl (by decide +kernel) ?_
      refine rt_inc rfl (gs_o rfl (gs_o rfl l4 rfl) rfl) (by decide +kernel) ?_
      rw [in_2, show 2 * j + 2 = 2 * (j + 1) by omega]
      refine RT_step (pc2 := 71) rfl (fun _ _ => rfl) ?_
      exact ih (j + 1) _ _ (by omega) (Nat.lt_of_le_of_lt Nat.and_le_left hb0) (gs_o rfl (gs_o rfl (gs_o rfl l0 rfl) rfl) rfl) (gs_o rfl (gs_o rfl (gs_o rfl l1 rfl) rfl) rfl) (gs_o rfl gs_n rfl) gs_n hq
