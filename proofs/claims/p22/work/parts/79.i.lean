theorem k8_16 : (Int8.ofInt 16).toInt32 = Int32.ofNat 16 := by decide +kernel
theorem k8_63 : (Int8.ofInt 63).toInt32 = Int32.ofNat 63 := by decide +kernel
/-! ===== guards: how many; the fewest ===== -/
def pcF : Nat → Nat → Nat
  | 0, _ => 0
  | f + 1, x => pcF f (x / 2) + x % 2
def pc (x : Nat) : Nat := pcF 7 x
def bc1 (z : Int32) : Int32 := z - (yk z 1 &&& Int32.ofNat 1431655765)
def bc2 (z : Int32) : Int32 := (z &&& Int32.ofNat 858993459) + (yk z 2 &&& Int32.ofNat 858993459)
def bc3 (z : Int32) : Int32 := (z + yk z 4) &&& Int32.ofNat 252645135
def bc4 (z : Int32) : Int32 := z + yk z 8
def bc5 (z : Int32) : Int32 := z + yk z 16
def bcE (z : Int32) : Int32 := bc5 (bc4 (bc3 (bc2 (bc1 z)))) &&& Int32.ofNat 63
theorem bc_7 : ∀ x, x < 128 → bcE (Int32.ofNat x) = Int32.ofNat (pc x) := by decide +kernel
theorem pc_le : ∀ x, x < 128 → pc x ≤ 7 := by decide +kernel
theorem pc_z : ∀ x, x < 128 → (pc x = 0 ↔ x = 0) := by decide +kernel
theorem pc_s : ∀ x, x < 128 → x = 0 ∨ (pc x = pc (x &&& (x - 1)) + 1 ∧ x &&& (x - 1) < 128) := by decide +kernel
theorem pc_top : ∀ P, P ≤ 7 → ∀ s, s < 2 ^ P → pc s = pc (2 ^ P - 1) → s = 2 ^ P - 1 := by decide +kernel
theorem n_m1s : ∀ x, x < 128 → x = 0 ∨ Int32.ofNat x - Int32.ofNat 1 = Int32.ofNat (x - 1) := by decide +kernel
theorem all_n : ∀ P, P ≤ 7 → (Int32.ofNat 1 <<< (Int32.ofNat P &&& 31)) - Int32.ofNat 1 = Int32.ofNat (2 ^ P - 1) := by decide +kernel
def gOK (X : Nat → Nat) (P s : Nat) : Bool := decide (s ||| wbL X s P 0 0 = 2 ^ P - 1)
def upg (X : Nat → Nat) (P : Nat) : Nat → Nat → Nat → Nat
  | 0, _, b => b
  | r + 1, s, b => upg X P r (s + 1) (if pc s < pc b ∧ gOK X P s = true then s else b)
def dng (X : Nat → Nat) (P : Nat) : Nat → Nat → Nat
  | 0, b => b
  | r + 1, b => dng X P r (if gOK X P r = true ∧ pc r ≤ pc b then r else b)
def lx (b s : Nat) : Prop := pc b < pc s ∨ (pc b = pc s ∧ b ≤ s)
def bst (X : Nat → Nat) (P b : Nat) : Prop := gOK X P b = true ∧ b < 2 ^ P ∧ ∀ s, s < 2 ^ P → gOK X P s = true → lx b s
theorem bst_u {X : Nat → Nat} {P a b : Nat} (h : bst X P a) (k : bst X P b) : a = b := by
  have h1 := h.2.2 b k.2.1 k.1
  have h2 := k.2.2 a h.2.1 h.1
  unfold lx at h1 h2
  omega
theorem g_all {X : Nat → Nat} {P : Nat} : gOK X P (2 ^ P - 1) = true := by
  refine decide_eq_true (Nat.eq_of_testBit_eq (fun j => ?_))
  rw [Nat.testBit_or, Nat.testBit_two_pow_sub_one]
  by_cases c : j < P
  · rw [decide_eq_true c]; rfl
  · rw [decide_eq_false c, Bool.false_or]
    exact Nat.testBit_lt_two_pow (Nat.lt_of_lt_of_le (wb_lt (by omega) (Nat.two_pow_pos P)) (Nat.pow_le_pow_right (by decide) (by omega)))
theorem upg_b {X : Nat → Nat} {P : Nat} (hP : P ≤ 7) : ∀ (r s b : Nat), s + r = 2 ^ P → gOK X P b = true → b < 2 ^ P → (b = 2 ^ P - 1 ∨ b < s) → (∀ t, t < s → gOK X P t = true → lx b t) → bst X P (upg X P r s b)
  | 0, s, b, hs, h1, h2, h3, h4 => ⟨h1, h2, fun t ht => h4 t (by omega)⟩
  | r + 1, s, b, hs, h1, h2, h3, h4 => by
    show bst X P (upg X P r (s + 1) (if pc s < pc b ∧ gOK X P s = true then s else b))
    by_cases c : pc s < pc b ∧ gOK X P s = true
    · rw [if_pos c]
      refine upg_b hP r (s + 1) s (by omega) c.2 (by omega) (Or.inr (by omega)) (fun t ht ho => ?_)
      by_cases e : t = s
      · subst e; exact Or.inr ⟨rfl, Nat.le_refl _⟩
      · have := h4 t (by omega) ho
        unfold lx at *
        omega
    · rw [if_neg c]
      refine upg_b hP r (s + 1) b (by omega) h1 h2 (h3.imp id (fun e => by omega)) (fun t ht ho => ?_)
      by_cases e : t = s
      · subst e
        have hn : ¬ pc t < pc b := fun q => c ⟨q, ho⟩
        by_cases q : pc b = pc t
        · refine Or.inr ⟨q, ?_⟩
          rcases h3 with h3 | h3
          · have := pc_top P hP t (by omega) (by rw [← q, h3])
            omega
          · omega
        · exact Or.inl (by omega)
      · exact h4 t (by omega) ho
theorem dng_b {X : Nat → Nat} {P : Nat} : ∀ (r b : Nat), r ≤ 2 ^ P → gOK X P b = true → b < 2 ^ P → (∀ t, r ≤ t → t < 2 ^ P → gOK X P t = true → lx b t) → bst X P (dng X P r b)
  | 0, b, hr, h1, h2, h4 => ⟨h1, h2, fun t ht => h4 t (Nat.zero_le t) ht⟩
  | r + 1, b, hr, h1, h2, h4 => by
    show bst X P (dng X P r (if gOK X P r = true ∧ pc r ≤ pc b then r else b))
    by_cases c : gOK X P r = true ∧ pc r ≤ pc b
    · rw [if_pos c]
      refine dng_b r r (by omega) c.1 (by omega) (fun t ht h5 ho => ?_)
      by_cases e : t = r
      · subst e; exact Or.inr ⟨rfl, Nat.le_refl _⟩
      · have := h4 t (by omega) h5 ho
        unfold lx at *
        omega
    · rw [if_neg c]
      refine dng_b r b (by omega) h1 h2 (fun t ht h5 ho => ?_)
      by_cases e : t = r
      · subst e
        have hn : ¬ pc t ≤ pc b := fun q => c ⟨ho, q⟩
        exact Or.inl (by omega)
      · exact h4 t (by omega) h5 ho
theorem g_eq {X : Nat → Nat} {P : Nat} (hP : P ≤ 7) : upg X P (2 ^ P) 0 (2 ^ P - 1) = dng X P (2 ^ P) (2 ^ P - 1) := by
  have hp := Nat.two_pow_pos P
  exact bst_u (upg_b hP (2 ^ P) 0 _ (by omega) g_all (by omega) (Or.inl rfl) (fun t ht => absurd ht (Nat.not_lt_zero t))) (dng_b (2 ^ P) _ (Nat.le_refl _) g_all (by omega) (fun t ht h5 => absurd ht (by omega)))
theorem upg_lt {X : Nat → Nat} {P : Nat} (hP : P ≤ 7) : upg X P (2 ^ P) 0 (2 ^ P - 1) < 128 := by
  have hp := Nat.two_pow_pos P
  have h := (upg_b (X := X) hP (2 ^ P) 0 _ (by omega) g_all (by omega) (Or.inl rfl) (fun t ht => absurd ht (Nat.not_lt_zero t))).2.1
  have := p7_le hP
  omega
def sv (r : Nat) : Int32 := if r = 0 then -1 else Int32.ofNat (r - 1)
theorem sv_s (s : Nat) (hs : s < 200) : Int32.ofNat s + Int32.ofInt (-1) = sv s := by
  have key : ∀ s, s < 200 → Int32.ofNat s + Int32.ofInt (-1) = sv s := by decide +kernel
  exact key s hs
theorem svz_0 : sv 0 < 0 := by decide
theorem sv_n (r : Nat) : sv (r + 1) = Int32.ofNat r := rfl
theorem x_bc {H : List AE} (z : Int32) : FR 1 298 [.int z] H (some (.int (bcE z)), ov H []) := by
  refine FR_of rfl ?_
  refine RT_step (pc2 := 1) rfl (fun _ _ => rfl) ?_
  refine RT_step (pc2 := 2) rfl (fun _ _ => rfl) ?_
  refine rt_ico rfl ki_1 ?_
  refine ba_iushr rfl ?_
  refine RT_step (pc2 := 7) rfl (fun _ _ => rfl) ?_
  refine ba_iand rfl ?_
  refine ba_isub rfl ?_
  refine RT_step (pc2 := 10) rfl (fun _ _ => rfl) ?_
  refine RT_step (pc2 := 11) rfl (fun _ _ => rfl) ?_
  refine RT_step (pc2 := 14) rfl (fun _ _ => rfl) ?_
  refine ba_iand rfl ?_
  refine RT_step (pc2 := 16) rfl (fun _ _ => rfl) ?_
  refine rt_ico rfl ki_2 ?_
  refine ba_iushr rfl ?_
  refine RT_step (pc2 := 21) rfl (fun _ _ => rfl) ?_
  refine ba_iand rfl ?_
  refine ba_iadd rfl ?_
  refine RT_step (pc2 := 24) rfl (fun _ _ => rfl) ?_
  refine RT_step (pc2 := 25) rfl (fun _ _ => rfl) ?_
  refine RT_step (pc2 := 26) rfl (fun _ _ => rfl) ?_
  refine rt_ico rfl ki_4 ?_
  refine ba_iushr rfl ?_
  refine ba_iadd rfl ?_
  refine RT_step (pc2 := 32) rfl (fun _ _ => rfl) ?_
  refine ba_iand rfl ?_
  refine RT_step (pc2 := 34) rfl (fun _ _ => rfl) ?_
  refine RT_step (pc2 := 35) rfl (fun _ _ => rfl) ?_
  refine RT_step (pc2 := 36) rfl (fun _ _ => rfl) ?_
  refine rt_bip rfl k8_8 ?_
  refine ba_iushr rfl ?_
  refine ba_iadd rfl ?_
  refine RT_step (pc2 := 41) rfl (fun _ _ => rfl) ?_
  refine RT_step (pc2 := 42) rfl (fun _ _ => rfl) ?_
  refine RT_step (pc2 := 43) rfl (fun _ _ => rfl) ?_
  refine rt_bip rfl k8_16 ?_
  refine ba_iushr rfl ?_
  refine ba_iadd rfl ?_
  refine RT_step (pc2 := 48) rfl (fun _ _ => rfl) ?_
  refine RT_step (pc2 := 49) rfl (fun _ _ => rfl) ?_
  refine rt_bip rfl k8_63 ?_
  refine ba_iand rfl ?_
  exact ow_irt rfl rfl rfl
theorem x_bc7 {H : List AE} {x : Nat} (hx : x < 128) : FR 1 298 [.int (Int32.ofNat x)] H (some (.int (Int32.ofNat (pc x))), ov H []) := by
  rw [← bc_7 x hx]
  exact x_bc _
theorem m_bitsL {H : List AE} {dd : Nat} : ∀ (c x n : Nat) (L : List (Nat × Value)), pc x = c → x < 128 → n + c < 100 → ev_g L 1 = some (.int (Int32.ofNat n)) → ev_g L 2 = some (.int (Int32.ofNat x)) → RT MM dd 179 4 L [] H (some (.int (Int32.ofNat (n + c))), H) := by
  intro c
  induction c with
  | zero =>
    intro x n L hc hx hn l1 l2
    have e := (pc_z x hx).mp hc
    subst e
    refine rt_ild rfl l2 ?_
    refine bcT_eq rfl rfl ?_
    refine rt_ild rfl l1 ?_
    exact ow_irt rfl rfl rfl
  | succ c ih =>
    intro x n L hc hx hn l1 l2
    have hz : x ≠ 0 := fun e => by have := (pc_z x hx).mpr e; omega
    obtain ⟨p1, p2⟩ := (pc_s x hx).resolve_left hz
    have p3 := (n_m1s x hx).resolve_left hz
    have p4 := pc_le x hx
    rw [show n + (c + 1) = (n + 1) + c from by omega]
    refine rt_ild rfl l2 ?_
    refine bcF_eq rfl (n_ne (b := 0) hz (by omega) (by decide)) ?_
    refine rt_inc rfl l1 (by decide +kernel) ?_
    rw [in_1]
    refine rt_ild rfl (gs_o rfl l2 rfl) ?_
    refine rt_ild rfl (gs_o rfl l2 rfl) ?_
    refine rt_ico rfl ki_1 ?_
    refine ba_isub rfl ?_
    rw [p3]
    refine ba_iand rfl ?_
    rw [n_and]
    refine rt_ist rfl (by decide +kernel) ?_
    refine RT_step (pc2 := 4) rfl (fun _ _ => rfl) ?_
    exact ih _ (n + 1) _ (by omega) p2 (by omega) (gs_o rfl gs_n rfl) gs_n
theorem m_bits {H : List AE} {x : Nat} (hx : x < 128) : FR 1 179 [.int (Int32.ofNat x)] H (some (.int (Int32.ofNat (pc x))), ov H []) := by
  refine FR_of rfl ?_
  refine rt_ico rfl ki_0 ?_
  refine RT_step (pc2 := 2) rfl (fun _ _ => rfl) ?_
  refine RT_step (pc2 := 3) rfl (fun _ _ => rfl) ?_
  refine RT_step (pc2 := 4) rfl (fun _ _ => rfl) ?_
  exact (congrArg (fun z => RT MM _ _ _ _ _ _ (some (.int (Int32.ofNat z)), _)) (Nat.zero_add (pc x))).mp (m_bitsL (pc x) x 0 _ rfl hx (by have := pc_le x hx; omega) rfl rfl)
theorem x_all3 {H : List AE} (hlen : Nat.ble 204 H.length = true) {P Dn gl bo : Nat} {lw cl id : Int32} (hP : P ≤ 7) (h1 : H[3]? = some (dcl3 P Dn lw cl id gl bo)) : FR 1 58 [.ref 3] H (some (.int (Int32.ofNat (2 ^ P - 1))), ov H []) := by
  refine FR_ov (l := [(3, dcl3 P Dn lw cl id gl bo)]) (l2 := [(3, dcl3 P Dn lw cl id gl bo)]) (ov_c1 h1) rfl (ov_c1 h1) ?_
  refine rt_ico rfl ki_1 ?_
  refine RT_step (pc2 := 2) rfl (fun _ _ => rfl) ?_
  refine ow_gf rfl rfl rfl hlen rfl ?_
  refine ba_ishl rfl ?_
  refine rt_ico rfl ki_1 ?_
  refine ba_isub rfl ?_
  rw [all_n P hP]
  exact ow_irt rfl rfl rfl
theorem x_fgL3 {H : List AE} (hlen : Nat.ble 204 H.length = true) {P Dn gl bo : Nat} {lw cl id : Int32} {wa : List Int32} {X : Nat → Nat} (hX : ∀ q, q < 7 → wa[q]? = some (Int32.ofNat (X q)) ∧ X q < 128) (hP : P ≤ 7) {dd : Nat} : ∀ (r s b : Nat) (L : List (Nat × Value)), s + r = 2 ^ P → b < 128 → ev_g L 0 = some (.ref 3) → ev_g L 1 = some (.int (Int32.ofNat (2 ^ P - 1))) → ev_g L 2 = some (.int (Int32.ofNat b)) → ev_g L 3 = some (.int (Int32.ofNat s)) → RT MM (dd + 1) 64 9 L [] (ov H [(3, dcl3 P Dn lw cl id gl bo), (7, ia wa)]) (some (.int (Int32.ofNat (upg X P r s b))), ov H [(3, dcl3 P Dn lw cl id gl bo), (7, ia wa)]) := by
  have h2 := p7_le hP
  have h0 := Nat.two_pow_pos P
  intro r
  induction r with
  | zero =>
    intro s b L hi hb l0 l1 l2 l3
    refine rt_ild rfl l3 ?_
    refine rt_ild rfl l1 ?_
    refine biT_gt rfl (n_lt (by omega) (by omega)) ?_
    refine rt_ild rfl l2 ?_
    exact ow_irt rfl rfl rfl
  | succ r ih =>
    intro s b L hi hb l0 l1 l2 l3
    have q1 := pc_le s (by omega)
    have q2 := pc_le b hb
    have hw : s ||| wbL X s P 0 0 < 128 := Nat.or_lt_two_pow (n := 7) (by omega) (Nat.lt_of_lt_of_le (wb_lt (by omega) h0) h2)
    by_cases c : pc s < pc b
    · by_cases k : s ||| wbL X s P 0 0 = 2 ^ P - 1
      · rw [show upg X P (r + 1) s b = upg X P r (s + 1) s from congrArg (upg X P r (s + 1)) (if_pos ⟨c, decide_eq_true k⟩)]
        refine rt_ild rfl l3 ?_
        refine rt_ild rfl l1 ?_
        refine biF_gt rfl (n_nlt (by omega) (by omega)) ?_
        refine rt_ild rfl l3 ?_
        refine ow_is1 (l2 := [(3, dcl3 P Dn lw cl id gl bo), (7, ia wa)]) rfl rfl rfl rfl rfl ((x_bc7 (x := s) (by omega)).up (by omega)) rfl ?_
        refine rt_ild rfl l2 ?_
        refine ow_is1 (l2 := [(3, dcl3 P Dn lw cl id gl bo), (7, ia wa)]) rfl rfl rfl rfl rfl ((x_bc7 (x := b) (by omega)).up (by omega)) rfl ?_
        refine biF_ge rfl (n_nle c (by omega)) ?_
        refine rt_ild rfl l3 ?_
        refine rt_ald rfl l0 ?_
        refine rt_ild rfl l3 ?_
        refine ow_iv1 (l2 := [(3, dcl3 P Dn lw cl id gl bo), (7, ia wa)]) rfl rfl rfl rfl hlen rfl rfl rfl ((x_wb3 (ov_hl hlen) hX hP (h := s) (by omega) (ov_at rfl (ov_lt hlen (by decide))) (ov_at rfl (ov_lt hlen (by decide)))).up (by omega)) rfl ?_
        refine ba_ior rfl ?_
        rw [n_or]
        refine rt_ild rfl l1 ?_
        refine biT_ne rfl (n_eq k) ?_
        refine rt_ild rfl l3 ?_
        refine rt_ist rfl (by decide +kernel) ?_
        refine rt_inc rfl (gs_o rfl l3 rfl) (by decide +kernel) ?_
        rw [in_1]
        refine RT_step (pc2 := 9) rfl (fun _ _ => rfl) ?_
        exact ih (s + 1) s _ (by omega) (by omega) (gs_o rfl (gs_o rfl l0 rfl) rfl) (gs_o rfl (gs_o rfl l1 rfl) rfl) (gs_o rfl gs_n rfl) gs_n
      · rw [show upg X P (r + 1) s b = upg X P r (s + 1) b from congrArg (upg X P r (s + 1)) (if_neg (fun e => k (of_decide_eq_true e.2)))]
        refine rt_ild rfl l3 ?_
        refine rt_ild rfl l1 ?_
        refine biF_gt rfl (n_nlt (by omega) (by omega)) ?_
        refine rt_ild rfl l3 ?_
        refine ow_is1 (l2 := [(3, dcl3 P Dn lw cl id gl bo), (7, ia wa)]) rfl rfl rfl rfl rfl ((x_bc7 (x := s) (by omega)).up (by omega)) rfl ?_
        refine rt_ild rfl l2 ?_
        refine ow_is1 (l2 := [(3, dcl3 P Dn lw cl id gl bo), (7, ia wa)]) rfl rfl rfl rfl rfl ((x_bc7 (x := b) (by omega)).up (by omega)) rfl ?_
        refine biF_ge rfl (n_nle c (by omega)) ?_
        refine rt_ild rfl l3 ?_
        refine rt_ald rfl l0 ?_
        refine rt_ild rfl l3 ?_
        refine ow_iv1 (l2 := [(3, dcl3 P Dn lw cl id gl bo), (7, ia wa)]) rfl rfl rfl rfl hlen rfl rfl rfl ((x_wb3 (ov_hl hlen) hX hP (h := s) (by omega) (ov_at rfl (ov_lt hlen (by decide))) (ov_at rfl (ov_lt hlen (by decide)))).up (by omega)) rfl ?_
        refine ba_ior rfl ?_
        rw [n_or]
        refine rt_ild rfl l1 ?_
        refine biF_ne rfl (n_ne k (by omega) (by omega)) ?_
        refine rt_inc rfl l3 (by decide +kernel) ?_
        rw [in_1]
        refine RT_step (pc2 := 9) rfl (fun _ _ => rfl) ?_
        exact ih (s + 1) b _ (by omega) hb (gs_o rfl l0 rfl) (gs_o rfl l1 rfl) (gs_o rfl l2 rfl) gs_n
    · rw [show upg X P (r + 1) s b = upg X P r (s + 1) b from congrArg (upg X P r (s + 1)) (if_neg (fun e => c e.1))]
      refine rt_ild rfl l3 ?_
      refine rt_ild rfl l1 ?_
      refine biF_gt rfl (n_nlt (by omega) (by omega)) ?_
      refine rt_ild rfl l3 ?_
      refine ow_is1 (l2 := [(3, dcl3 P Dn lw cl id gl bo), (7, ia wa)]) rfl rfl rfl rfl rfl ((x_bc7 (x := s) (by omega)).up (by omega)) rfl ?_
      refine rt_ild rfl l2 ?_
      refine ow_is1 (l2 := [(3, dcl3 P Dn lw cl id gl bo), (7, ia wa)]) rfl rfl rfl rfl rfl ((x_bc7 (x := b) (by omega)).up (by omega)) rfl ?_
      refine biT_ge rfl (n_le (by omega) (by omega)) ?_
      refine rt_inc rfl l3 (by decide +kernel) ?_
      rw [in_1]
      refine RT_step (pc2 := 9) rfl (fun _ _ => rfl) ?_
      exact ih (s + 1) b _ (by omega) hb (gs_o rfl l0 rfl) (gs_o rfl l1 rfl) (gs_o rfl l2 rfl) gs_n
theorem x_fg3 {H : List AE} (hlen : Nat.ble 204 H.length = true) {P Dn gl bo : Nat} {lw cl id : Int32} {wa : List Int32} {X : Nat → Nat} (hX : ∀ q, q < 7 → wa[q]? = some (Int32.ofNat (X q)) ∧ X q < 128) (hP : P ≤ 7) (h1 : H[3]? = some (dcl3 P Dn lw cl id gl bo)) (h2 : H[7]? = some (ia wa)) : FR 3 64 [.ref 3] H (some (.int (Int32.ofNat (upg X P (2 ^ P) 0 (2 ^ P - 1)))), ov H []) := by
  have k2 := p7_le hP
  refine FR_ov (l := [(3, dcl3 P Dn lw cl id gl bo), (7, ia wa)]) (l2 := [(3, dcl3 P Dn lw cl id gl bo), (7, ia wa)]) (ov_id h1 (ov_c1 h2)) rfl (ov_id h1 (ov_c1 h2)) ?_
  refine RT_step (pc2 := 1) rfl (fun _ _ => rfl) ?_
  refine ow_iv1 (l2 := [(3, dcl3 P Dn lw cl id gl bo), (7, ia wa)]) rfl rfl rfl rfl hlen rfl rfl rfl ((x_all3 (ov_hl hlen) hP (ov_at rfl (ov_lt hlen (by decide)))).up (by decide)) rfl ?_
  refine RT_step (pc2 := 5) rfl (fun _ _ => rfl) ?_
  refine RT_step (pc2 := 6) rfl (fun _ _ => rfl) ?_
  refine RT_step (pc2 := 7) rfl (fun _ _ => rfl) ?_
  refine rt_ico rfl ki_0 ?_
  refine RT_step (pc2 := 9) rfl (fun _ _ => rfl) ?_
  exact x_fgL3 (dd := 1) hlen hX hP (2 ^ P) 0 _ _ (by omega) (by omega) rfl rfl rfl rfl
theorem x_gu3 {H : List AE} (hlen : Nat.ble 204 H.length = true) {s se ss : Nat} {lt fb tq gb : Int32} {P Dn gl bo : Nat} {lw cl id : Int32} {wa : List Int32} {X : Nat → Nat} (h0 : H[0]? = some (.inr (10, [.ref 1, .ref 3, .ref s, .ref 23, .ref 31, .ref 39, .ref 105, .ref se, .ref ss, .ref 120, .ref 125, .ref 129, .ref 131, .int lt, .int fb, .int tq, .int gb]))) (h1 : H[3]? = some (dcl3 P Dn lw cl id gl bo)) (h2 : H[7]? = some (ia wa)) (hX : ∀ q, q < 7 → wa[q]? = some (Int32.ofNat (X q)) ∧ X q < 128) (hP : P ≤ 7) : FR 4 23 [.ref 0] H (some (.int (Int32.ofNat (pc (upg X P (2 ^ P) 0 (2 ^ P - 1))))), ov H [(0, .inr (10, [.ref 1, .ref 3, .ref s, .ref 23, .ref 31, .ref 39, .ref 105, .ref se, .ref ss, .ref 120, .ref 125, .ref 129, .ref 131, .int lt, .int fb, .int tq, .int (Int32.ofNat (upg X P (2 ^ P) 0 (2 ^ P - 1)))]))]) := by
  refine FR_ov (l := [(0, .inr (10, [.ref 1, .ref 3, .ref s, .ref 23, .ref 31, .ref 39, .ref 105, .ref se, .ref ss, .ref 120, .ref 125, .ref 129, .ref 131, .int lt, .int fb, .int tq, .int gb])), (3, dcl3 P Dn lw cl id gl bo), (7, ia wa)]) (l2 := [(0, .inr (10, [.ref 1, .ref 3, .ref s, .ref 23, .ref 31, .ref 39, .ref 105, .ref se, .ref ss, .ref 120, .ref 125, .ref 129, .ref 131, .int lt, .int fb, .int tq, .int (Int32.ofNat (upg X P (2 ^ P) 0 (2 ^ P - 1)))])), (3, dcl3 P Dn lw cl id gl bo), (7, ia wa)]) (ov_id h0 (ov_id h1 (ov_c1 h2))) rfl (congrArg (fun z : List AE => z.set 0 _) (ov_id h1 (ov_c1 h2))) ?_
  refine RT_step (pc2 := 1) rfl (fun _ _ => rfl) ?_
  refine RT_step (pc2 := 2) rfl (fun _ _ => rfl) ?_
  refine ow_gf rfl rfl rfl hlen rfl ?_
  refine ow_iv1 (l2 := [(0, .inr (10, [.ref 1, .ref 3, .ref s, .ref 23, .ref 31, .ref 39, .ref 105, .ref se, .ref ss, .ref 120, .ref 125, .ref 129, .ref 131, .int lt, .int fb, .int tq, .int gb])), (3, dcl3 P Dn lw cl id gl bo), (7, ia wa)]) rfl rfl rfl rfl hlen rfl rfl rfl ((x_fg3 (ov_hl hlen) hX hP (ov_at rfl (ov_lt hlen (by decide))) (ov_at rfl (ov_lt hlen (by decide)))).up (by decide)) rfl ?_
  refine ow_pf rfl rfl rfl rfl rfl hlen rfl rfl ?_
  refine RT_step (pc2 := 12) rfl (fun _ _ => rfl) ?_
  refine ow_gf rfl rfl rfl hlen rfl ?_
  refine ow_is1 (l2 := [(0, .inr (10, [.ref 1, .ref 3, .ref s, .ref 23, .ref 31, .ref 39, .ref 105, .ref se, .ref ss, .ref 120, .ref 125, .ref 129, .ref 131, .int lt, .int fb, .int tq, .int (Int32.ofNat (upg X P (2 ^ P) 0 (2 ^ P - 1)))])), (3, dcl3 P Dn lw cl id gl bo), (7, ia wa)]) rfl rfl rfl rfl rfl ((x_bc7 (upg_lt hP)).up (by decide)) rfl ?_
  exact ow_irt rfl rfl rfl
theorem x_all13 {H : List AE} (hlen : Nat.ble 204 H.length = true) {P Dn gl bo : Nat} {lw cl id : Int32} (hP : P ≤ 7) (h1 : H[13]? = some (dcl13 P Dn lw cl id gl bo)) : FR 1 58 [.ref 13] H (some (.int (Int32.ofNat (2 ^ P - 1))), ov H []) := by
  refine FR_ov (l := [(13, dcl13 P Dn lw cl id gl bo)]) (l2 := [(13, dcl13 P Dn lw cl id gl bo)]) (ov_c1 h1) rfl (ov_c1 h1) ?_
  refine rt_ico rfl ki_1 ?_
  refine RT_step (pc2 := 2) rfl (fun _ _ => rfl) ?_
  refine ow_gf rfl rfl rfl hlen rfl ?_
  refine ba_ishl rfl ?_
  refine rt_ico rfl ki_1 ?_
  refine ba_isub rfl ?_
  rw [all_n P hP]
  exact ow_irt rfl rfl rfl
theorem x_fgL13 {H : List AE} (hlen : Nat.ble 204 H.length = true) {P Dn gl bo : Nat} {lw cl id : Int32} {wa : List Int32} {X : Nat → Nat} (hX : ∀ q, q < 7 → wa[q]? = some (Int32.ofNat (X q)) ∧ X q < 128) (hP : P ≤ 7) {dd : Nat} : ∀ (r s b : Nat) (L : List (Nat × Value)), s + r = 2 ^ P → b < 128 → ev_g L 0 = some (.ref 13) → ev_g L 1 = some (.int (Int32.ofNat (2 ^ P - 1))) → ev_g L 2 = some (.int (Int32.ofNat b)) → ev_g L 3 = some (.int (Int32.ofNat s)) → RT MM (dd + 1) 64 9 L [] (ov H [(13, dcl13 P Dn lw cl id gl bo), (17, ia wa)]) (some (.int (Int32.ofNat (upg X P r s b))), ov H [(13, dcl13 P Dn lw cl id gl bo), (17, ia wa)]) := by
  have h2 := p7_le hP
  have h0 := Nat.two_pow_pos P
  intro r
  induction r with
  | zero =>
    intro s b L hi hb l0 l1 l2 l3
    refine rt_ild rfl l3 ?_
    refine rt_ild rfl l1 ?_
    refine biT_gt rfl (n_lt (by omega) (by omega)) ?_
    refine rt_ild rfl l2 ?_
    exact ow_irt rfl rfl rfl
  | succ r ih =>
    intro s b L hi hb l0 l1 l2 l3
    have q1 := pc_le s (by omega)
    have q2 := pc_le b hb
    have hw : s ||| wbL X s P 0 0 < 128 := Nat.or_lt_two_pow (n := 7) (by omega) (Nat.lt_of_lt_of_le (wb_lt (by omega) h0) h2)
    by_cases c : pc s < pc b
    · by_cases k : s ||| wbL X s P 0 0 = 2 ^ P - 1
      · rw [show upg X P (r + 1) s b = upg X P r (s + 1) s from congrArg (upg X P r (s + 1)) (if_pos ⟨c, decide_eq_true k⟩)]
        refine rt_ild rfl l3 ?_
        refine rt_ild rfl l1 ?_
        refine biF_gt rfl (n_nlt (by omega) (by omega)) ?_
        refine rt_ild rfl l3 ?_
        refine ow_is1 (l2 := [(13, dcl13 P Dn lw cl id gl bo), (17, ia wa)]) rfl rfl rfl rfl rfl ((x_bc7 (x := s) (by omega)).up (by omega)) rfl ?_
        refine rt_ild rfl l2 ?_
        refine ow_is1 (l2 := [(13, dcl13 P Dn lw cl id gl bo), (17, ia wa)]) rfl rfl rfl rfl rfl ((x_bc7 (x := b) (by omega)).up (by omega)) rfl ?_
        refine biF_ge rfl (n_nle c (by omega)) ?_
        refine rt_ild rfl l3 ?_
        refine rt_ald rfl l0 ?_
        refine rt_ild rfl l3 ?_
        refine ow_iv1 (l2 := [(13, dcl13 P Dn lw cl id gl bo), (17, ia wa)]) rfl rfl rfl rfl hlen rfl rfl rfl ((x_wb13 (ov_hl hlen) hX hP (h := s) (by omega) (ov_at rfl (ov_lt hlen (by decide))) (ov_at rfl (ov_lt hlen (by decide)))).up (by omega)) rfl ?_
        refine ba_ior rfl ?_
        rw [n_or]
        refine rt_ild rfl l1 ?_
        refine biT_ne rfl (n_eq k) ?_
        refine rt_ild rfl l3 ?_
        refine rt_ist rfl (by decide +kernel) ?_
        refine rt_inc rfl (gs_o rfl l3 rfl) (by decide +kernel) ?_
        rw [in_1]
        refine RT_step (pc2 := 9) rfl (fun _ _ => rfl) ?_
        exact ih (s + 1) s _ (by omega) (by omega) (gs_o rfl (gs_o rfl l0 rfl) rfl) (gs_o rfl (gs_o rfl l1 rfl) rfl) (gs_o rfl gs_n rfl) gs_n
      · rw [show upg X P (r + 1) s b = upg X P r (s + 1) b from congrArg (upg X P r (s + 1)) (if_neg (fun e => k (of_decide_eq_true e.2)))]
        refine rt_ild rfl l3 ?_
        refine rt_ild rfl l1 ?_
        refine biF_gt rfl (n_nlt (by omega) (by omega)) ?_
        refine rt_ild rfl l3 ?_
        refine ow_is1 (l2 := [(13, dcl13 P Dn lw cl id gl bo), (17, ia wa)]) rfl rfl rfl rfl rfl ((x_bc7 (x := s) (by omega)).up (by omega)) rfl ?_
        refine rt_ild rfl l2 ?_
        refine ow_is1 (l2 := [(13, dcl13 P Dn lw cl id gl bo), (17, ia wa)]) rfl rfl rfl rfl rfl ((x_bc7 (x := b) (by omega)).up (by omega)) rfl ?_
        refine biF_ge rfl (n_nle c (by omega)) ?_
        refine rt_ild rfl l3 ?_
        refine rt_ald rfl l0 ?_
        refine rt_ild rfl l3 ?_
        refine ow_iv1 (l2 := [(13, dcl13 P Dn lw cl id gl bo), (17, ia wa)]) rfl rfl rfl rfl hlen rfl rfl rfl ((x_wb13 (ov_hl hlen) hX hP (h := s) (by omega) (ov_at rfl (ov_lt hlen (by decide))) (ov_at rfl (ov_lt hlen (by decide)))).up (by omega)) rfl ?_
        refine ba_ior rfl ?_
        rw [n_or]
        refine rt_ild rfl l1 ?_
        refine biF_ne rfl (n_ne k (by omega) (by omega)) ?_
        refine rt_inc rfl l3 (by decide +kernel) ?_
        rw [in_1]
        refine RT_step (pc2 := 9) rfl (fun _ _ => rfl) ?_
        exact ih (s + 1) b _ (by omega) hb (gs_o rfl l0 rfl) (gs_o rfl l1 rfl) (gs_o rfl l2 rfl) gs_n
    · rw [show upg X P (r + 1) s b = upg X P r (s + 1) b from congrArg (upg X P r (s + 1)) (if_neg (fun e => c e.1))]
      refine rt_ild rfl l3 ?_
      refine rt_ild rfl l1 ?_
      refine biF_gt rfl (n_nlt (by omega) (by omega)) ?_
      refine rt_ild rfl l3 ?_
      refine ow_is1 (l2 := [(13, dcl13 P Dn lw cl id gl bo), (17, ia wa)]) rfl rfl rfl rfl rfl ((x_bc7 (x := s) (by omega)).up (by omega)) rfl ?_
      refine rt_ild rfl l2 ?_
      refine ow_is1 (l2 := [(13, dcl13 P Dn lw cl id gl bo), (17, ia wa)]) rfl rfl rfl rfl rfl ((x_bc7 (x := b) (by omega)).up (by omega)) rfl ?_
      refine biT_ge rfl (n_le (by omega) (by omega)) ?_
      refine rt_inc rfl l3 (by decide +kernel) ?_
      rw [in_1]
      refine RT_step (pc2 := 9) rfl (fun _ _ => rfl) ?_
      exact ih (s + 1) b _ (by omega) hb (gs_o rfl l0 rfl) (gs_o rfl l1 rfl) (gs_o rfl l2 rfl) gs_n
theorem x_fg13 {H : List AE} (hlen : Nat.ble 204 H.length = true) {P Dn gl bo : Nat} {lw cl id : Int32} {wa : List Int32} {X : Nat → Nat} (hX : ∀ q, q < 7 → wa[q]? = some (Int32.ofNat (X q)) ∧ X q < 128) (hP : P ≤ 7) (h1 : H[13]? = some (dcl13 P Dn lw cl id gl bo)) (h2 : H[17]? = some (ia wa)) : FR 3 64 [.ref 13] H (some (.int (Int32.ofNat (upg X P (2 ^ P) 0 (2 ^ P - 1)))), ov H []) := by
  have k2 := p7_le hP
  refine FR_ov (l := [(13, dcl13 P Dn lw cl id gl bo), (17, ia wa)]) (l2 := [(13, dcl13 P Dn lw cl id gl bo), (17, ia wa)]) (ov_id h1 (ov_c1 h2)) rfl (ov_id h1 (ov_c1 h2)) ?_
  refine RT_step (pc2 := 1) rfl (fun _ _ => rfl) ?_
  refine ow_iv1 (l2 := [(13, dcl13 P Dn lw cl id gl bo), (17, ia wa)]) rfl rfl rfl rfl hlen rfl rfl rfl ((x_all13 (ov_hl hlen) hP (ov_at rfl (ov_lt hlen (by decide)))).up (by decide)) rfl ?_
  refine RT_step (pc2 := 5) rfl (fun _ _ => rfl) ?_
  refine RT_step (pc2 := 6) rfl (fun _ _ => rfl) ?_
  refine RT_step (pc2 := 7) rfl (fun _ _ => rfl) ?_
  refine rt_ico rfl ki_0 ?_
  refine RT_step (pc2 := 9) rfl (fun _ _ => rfl) ?_
  exact x_fgL13 (dd := 1) hlen hX hP (2 ^ P) 0 _ _ (by omega) (by omega) rfl rfl rfl rfl
theorem x_gu13 {H : List AE} (hlen : Nat.ble 204 H.length = true) {s se ss : Nat} {lt fb tq gb : Int32} {P Dn gl bo : Nat} {lw cl id : Int32} {wa : List Int32} {X : Nat → Nat} (h0 : H[0]? = some (.inr (10, [.ref 1, .ref 13, .ref s, .ref 23, .ref 31, .ref 39, .ref 105, .ref se, .ref ss, .ref 120, .ref 125, .ref 129, .ref 131, .int lt, .int fb, .int tq, .int gb]))) (h1 : H[13]? = some (dcl13 P Dn lw cl id gl bo)) (h2 : H[17]? = some (ia wa)) (hX : ∀ q, q < 7 → wa[q]? = some (Int32.ofNat (X q)) ∧ X q < 128) (hP : P ≤ 7) : FR 4 23 [.ref 0] H (some (.int (Int32.ofNat (pc (upg X P (2 ^ P) 0 (2 ^ P - 1))))), ov H [(0, .inr (10, [.ref 1, .ref 13, .ref s, .ref 23, .ref 31, .ref 39, .ref 105, .ref se, .ref ss, .ref 120, .ref 125, .ref 129, .ref 131, .int lt, .int fb, .int tq, .int (Int32.ofNat (upg X P (2 ^ P) 0 (2 ^ P - 1)))]))]) := by
  refine FR_ov (l := [(0, .inr (10, [.ref 1, .ref 13, .ref s, .ref 23, .ref 31, .ref 39, .ref 105, .ref se, .ref ss, .ref 120, .ref 125, .ref 129, .ref 131, .int lt, .int fb, .int tq, .int gb])), (13, dcl13 P Dn lw cl id gl bo), (17, ia wa)]) (l2 := [(0, .inr (10, [.ref 1, .ref 13, .ref s, .ref 23, .ref 31, .ref 39, .ref 105, .ref se, .ref ss, .ref 120, .ref 125, .ref 129, .ref 131, .int lt, .int fb, .int tq, .int (Int32.ofNat (upg X P (2 ^ P) 0 (2 ^ P - 1)))])), (13, dcl13 P Dn lw cl id gl bo), (17, ia wa)]) (ov_id h0 (ov_id h1 (ov_c1 h2))) rfl (congrArg (fun z : List AE => z.set 0 _) (ov_id h1 (ov_c1 h2))) ?_
  refine RT_step (pc2 := 1) rfl (fun _ _ => rfl) ?_
  refine RT_step (pc2 := 2) rfl (fun _ _ => rfl) ?_
  refine ow_gf rfl rfl rfl hlen rfl ?_
  refine ow_iv1 (l2 := [(0, .inr (10, [.ref 1, .ref 13, .ref s, .ref 23, .ref 31, .ref 39, .ref 105, .ref se, .ref ss, .ref 120, .ref 125, .ref 129, .ref 131, .int lt, .int fb, .int tq, .int gb])), (13, dcl13 P Dn lw cl id gl bo), (17, ia wa)]) rfl rfl rfl rfl hlen rfl rfl rfl ((x_fg13 (ov_hl hlen) hX hP (ov_at rfl (ov_lt hlen (by decide))) (ov_at rfl (ov_lt hlen (by decide)))).up (by decide)) rfl ?_
  refine ow_pf rfl rfl rfl rfl rfl hlen rfl rfl ?_
  refine RT_step (pc2 := 12) rfl (fun _ _ => rfl) ?_
  refine ow_gf rfl rfl rfl hlen rfl ?_
  refine ow_is1 (l2 := [(0, .inr (10, [.ref 1, .ref 13, .ref s, .ref 23, .ref 31, .ref 39, .ref 105, .ref se, .ref ss, .ref 120, .ref 125, .ref 129, .ref 131, .int lt, .int fb, .int tq, .int (Int32.ofNat (upg X P (2 ^ P) 0 (2 ^ P - 1)))])), (13, dcl13 P Dn lw cl id gl bo), (17, ia wa)]) rfl rfl rfl rfl rfl ((x_bc7 (upg_lt hP)).up (by decide)) rfl ?_
  exact ow_irt rfl rfl rfl
theorem m_guL {H : List AE} (hlen : Nat.ble 204 H.length = true) {sm pm pn fm te gu p2 nu sg fa pl td : Int32} {sz lim a fr kd : Nat} {wd : Int64} {pr : List Value} {nw : List Int32} {Y X : Nat → Nat} (hY : ∀ q, q < 7 → nw[45 + q]? = some (Int32.ofNat (Y q)) ∧ Y q < 128) {P : Nat} (hP : P ≤ 7) (hxy : ∀ s, s < 2 ^ P → nxL Y s 7 0 s = s ||| wbL X s P 0 0) {dd : Nat} {q : ev_R} : ∀ (r b : Nat) (L : List (Nat × Value)), r ≤ 2 ^ P → b < 128 → ev_g L 0 = some (.ref 180) → ev_g L 1 = some (.int (Int32.ofNat (2 ^ P - 1))) → ev_g L 2 = some (.int (Int32.ofNat b)) → ev_g L 3 = some (.int (sv r)) → (∀ L2, ev_g L2 0 = some (.ref 180) → ev_g L2 2 = some (.int (Int32.ofNat (dng X P r b))) → RT MM (dd + 1) 208 92 L2 [] (ov H [(180, mcl (Int32.ofNat 0) p2 sz lim a fr kd nu sg fa pl wd td (pof (.int sm :: .ref 192 :: .ref 193 :: .ref 194 :: .int pm :: .int pn :: .ref 195 :: .ref 196 :: .int fm :: .int te :: .int gu :: pr))), (182, ia nw)]) q) → RT MM (dd + 1) 208 20 L [] (ov H [(180, mcl (Int32.ofNat 0) p2 sz lim a fr kd nu sg fa pl wd td (pof (.int sm :: .ref 192 :: .ref 193 :: .ref 194 :: .int pm :: .int pn :: .ref 195 :: .ref 196 :: .int fm :: .int te :: .int gu :: pr))), (182, ia nw)]) q := by
  have h2 := p7_le hP
  have h0 := Nat.two_pow_pos P
  intro r
  induction r with
  | zero =>
    intro b L hr hb l0 l1 l2 l3 hq
    refine rt_ild rfl l3 ?_
    refine bcT_lt rfl svz_0 ?_
    exact hq _ l0 l2
  | succ r ih =>
    intro b L hr hb l0 l1 l2 l3 hq
    rw [sv_n] at l3
    have q1 := pc_le r (by omega)
    have q2 := pc_le b hb
    have hk := hxy r (by omega)
    have hn : nxL Y r 7 0 r < 128 := nx_lt (m := 7) (fun k hk => (hY k (by omega)).2) (by omega)
    refine rt_ild rfl l3 ?_
    refine bcF_lt rfl (n_ps (by omega)) ?_
    refine rt_ild rfl l3 ?_
    refine rt_is2 rfl (by decide +kernel) ?_
    refine rt_ico rfl ki_0 ?_
    refine rt_is2 rfl (by decide +kernel) ?_
    refine m_nx_gu (v1 := Int32.ofNat (2 ^ P - 1)) (v2 := Int32.ofNat b) hlen hY (h := r) (by omega) 7 0 r _ (by omega) (by omega) (gs_o rfl (gs_o rfl l0 rfl) rfl) (gs_o rfl (gs_o rfl l1 rfl) rfl) (gs_o rfl (gs_o rfl l2 rfl) rfl) (gs_o rfl (gs_o rfl l3 rfl) rfl) (gs_o rfl gs_n rfl) gs_n (fun L2 k0 k1 k2 k3 k4 => ?_)
    by_cases k : r ||| wbL X r P 0 0 = 2 ^ P - 1
    · have k8 := hk.trans k
      by_cases c : pc r ≤ pc b
      · rw [show dng X P (r + 1) b = dng X P r r from congrArg (dng X P r) (if_pos ⟨decide_eq_true k, c⟩)] at hq
        refine rt_il2 rfl k4 ?_
        refine rt_ild rfl k1 ?_
        refine biT_ne rfl (n_eq k8) ?_
        refine rt_ild rfl k3 ?_
        refine ow_is1 (l2 := [(180, mcl (Int32.ofNat 0) p2 sz lim a fr kd nu sg fa pl wd td (pof (.int sm :: .ref 192 :: .ref 193 :: .ref 194 :: .int pm :: .int pn :: .ref 195 :: .ref 196 :: .int fm :: .int te :: .int gu :: pr))), (182, ia nw)]) rfl rfl rfl rfl rfl ((m_bits (x := r) (by omega)).up (by omega)) rfl ?_
        refine rt_ild rfl k2 ?_
        refine ow_is1 (l2 := [(180, mcl (Int32.ofNat 0) p2 sz lim a fr kd nu sg fa pl wd td (pof (.int sm :: .ref 192 :: .ref 193 :: .ref 194 :: .int pm :: .int pn :: .ref 195 :: .ref 196 :: .int fm :: .int te :: .int gu :: pr))), (182, ia nw)]) rfl rfl rfl rfl rfl ((m_bits (x := b) (by omega)).up (by omega)) rfl ?_
        refine biF_gt rfl (n_nlt c (by omega)) ?_
        refine rt_ild rfl k3 ?_
        refine rt_ist rfl (by decide +kernel) ?_
        refine rt_inc rfl (gs_o rfl k3 rfl) (by decide +kernel) ?_
        rw [sv_s r (by omega)]
        refine RT_step (pc2 := 20) rfl (fun _ _ => rfl) ?_
        exact ih r _ (by omega) (by omega) (gs_o rfl (gs_o rfl k0 rfl) rfl) (gs_o rfl (gs_o rfl k1 rfl) rfl) (gs_o rfl gs_n rfl) gs_n hq
      · rw [show dng X P (r + 1) b = dng X P r b from congrArg (dng X P r) (if_neg (fun e => c e.2))] at hq
        refine rt_il2 rfl k4 ?_
        refine rt_ild rfl k1 ?_
        refine biT_ne rfl (n_eq k8) ?_
        refine rt_ild rfl k3 ?_
        refine ow_is1 (l2 := [(180, mcl (Int32.ofNat 0) p2 sz lim a fr kd nu sg fa pl wd td (pof (.int sm :: .ref 192 :: .ref 193 :: .ref 194 :: .int pm :: .int pn :: .ref 195 :: .ref 196 :: .int fm :: .int te :: .int gu :: pr))), (182, ia nw)]) rfl rfl rfl rfl rfl ((m_bits (x := r) (by omega)).up (by omega)) rfl ?_
        refine rt_ild rfl k2 ?_
        refine ow_is1 (l2 := [(180, mcl (Int32.ofNat 0) p2 sz lim a fr kd nu sg fa pl wd td (pof (.int sm :: .ref 192 :: .ref 193 :: .ref 194 :: .int pm :: .int pn :: .ref 195 :: .ref 196 :: .int fm :: .int te :: .int gu :: pr))), (182, ia nw)]) rfl rfl rfl rfl rfl ((m_bits (x := b) (by omega)).up (by omega)) rfl ?_
        refine biT_gt rfl (n_lt (by omega) (by omega)) ?_
        refine rt_inc rfl k3 (by decide +kernel) ?_
        rw [sv_s r (by omega)]
        refine RT_step (pc2 := 20) rfl (fun _ _ => rfl) ?_
        exact ih b _ (by omega) (by omega) (gs_o rfl k0 rfl) (gs_o rfl k1 rfl) (gs_o rfl k2 rfl) gs_n hq
    · rw [show dng X P (r + 1) b = dng X P r b from congrArg (dng X P r) (if_neg (fun e => k (of_decide_eq_true e.1)))] at hq
      refine rt_il2 rfl k4 ?_
      refine rt_ild rfl k1 ?_
      refine biF_ne rfl (n_ne (fun e => k (hk.symm.trans e)) (by omega) (by omega)) ?_
      refine rt_inc rfl k3 (by decide +kernel) ?_
      rw [sv_s r (by omega)]
      refine RT_step (pc2 := 20) rfl (fun _ _ => rfl) ?_
      exact ih b _ (by omega) (by omega) (gs_o rfl k0 rfl) (gs_o rfl k1 rfl) (gs_o rfl k2 rfl) gs_n hq
theorem m_gu {H : List AE} (hlen : Nat.ble 204 H.length = true) {sm pm pn fm te gu p0 p2 nu sg fa pl td : Int32} {sz lim a fr kd : Nat} {wd : Int64} {pr : List Value} {nw : List Int32} {Y X : Nat → Nat} {P : Nat} (h0 : H[180]? = some (mcl p0 p2 sz lim a fr kd nu sg fa pl wd td (pof (.int sm :: .ref 192 :: .ref 193 :: .ref 194 :: .int pm :: .int pn :: .ref 195 :: .ref 196 :: .int fm :: .int te :: .int gu :: pr)))) (h1 : H[182]? = some (ia nw)) (hv : nw[0]? = some (Int32.ofNat P)) (hY : ∀ q, q < 7 → nw[45 + q]? = some (Int32.ofNat (Y q)) ∧ Y q < 128) (hP : P ≤ 7) (hxy : ∀ s, s < 2 ^ P → nxL Y s 7 0 s = s ||| wbL X s P 0 0) : FR 3 208 [.ref 180] H (some (.int (Int32.ofNat (pc (dng X P (2 ^ P) (2 ^ P - 1))))), ov H [(180, mcl (Int32.ofNat 0) p2 sz lim a fr kd nu sg fa pl wd td (pof (.int sm :: .ref 192 :: .ref 193 :: .ref 194 :: .int pm :: .int pn :: .ref 195 :: .ref 196 :: .int fm :: .int te :: .int (Int32.ofNat (dng X P (2 ^ P) (2 ^ P - 1))) :: pr)))]) := by
  have k2 := p7_le hP
  have k0 := Nat.two_pow_pos P
  have hb := upg_lt (X := X) hP
  rw [g_eq hP] at hb
  have hsv : sv (2 ^ P) = Int32.ofNat (2 ^ P - 1) := by
    rw [show 2 ^ P = (2 ^ P - 1) + 1 by omega]
    rfl
  refine FR_ov (l := [(180, mcl p0 p2 sz lim a fr kd nu sg fa pl wd td (pof (.int sm :: .ref 192 :: .ref 193 :: .ref 194 :: .int pm :: .int pn :: .ref 195 :: .ref 196 :: .int fm :: .int te :: .int gu :: pr))), (182, ia nw)]) (l2 := [(180, mcl (Int32.ofNat 0) p2 sz lim a fr kd nu sg fa pl wd td (pof (.int sm :: .ref 192 :: .ref 193 :: .ref 194 :: .int pm :: .int pn :: .ref 195 :: .ref 196 :: .int fm :: .int te :: .int (Int32.ofNat (dng X P (2 ^ P) (2 ^ P - 1))) :: pr))), (182, ia nw)]) (ov_id h0 (ov_c1 h1)) rfl (ov_2 h1) ?_
  refine RT_step (pc2 := 1) rfl (fun _ _ => rfl) ?_
  refine rt_ico rfl ki_0 ?_
  refine ow_pf rfl rfl rfl rfl rfl hlen rfl rfl ?_
  refine rt_ico rfl ki_1 ?_
  refine RT_step (pc2 := 7) rfl (fun _ _ => rfl) ?_
  refine ow_gf rfl rfl rfl hlen rfl ?_
  refine rt_ico rfl ki_0 ?_
  refine ow_ialN rfl rfl hv (by omega) hlen rfl ?_
  refine ba_ishl rfl ?_
  refine rt_ico rfl ki_1 ?_
  refine ba_isub rfl ?_
  rw [all_n P hP]
  refine RT_step (pc2 := 16) rfl (fun _ _ => rfl) ?_
  refine RT_step (pc2 := 17) rfl (fun _ _ => rfl) ?_
  refine RT_step (pc2 := 18) rfl (fun _ _ => rfl) ?_
  refine RT_step (pc2 := 19) rfl (fun _ _ => rfl) ?_
  refine RT_step (pc2 := 20) rfl (fun _ _ => rfl) ?_
  refine m_guL (dd := 1) hlen hY hP hxy (2 ^ P) (2 ^ P - 1) _ (Nat.le_refl _) (by omega) rfl rfl rfl (by rw [hsv]; rfl) (fun L2 l0 l2 => ?_)
  refine rt_ald rfl l0 ?_
  refine rt_ild rfl l2 ?_
  refine ow_pf rfl rfl rfl rfl rfl hlen rfl rfl ?_
  refine rt_ild rfl l2 ?_
  refine ow_is1 (l2 := [(180, mcl (Int32.ofNat 0) p2 sz lim a fr kd nu sg fa pl wd td (pof (.int sm :: .ref 192 :: .ref 193 :: .ref 194 :: .int pm :: .int pn :: .ref 195 :: .ref 196 :: .int fm :: .int te :: .int (Int32.ofNat (dng X P (2 ^ P) (2 ^ P - 1))) :: pr))), (182, ia nw)]) rfl rfl rfl rfl rfl ((m_bits hb).up (by decide)) rfl ?_
  exact ow_irt rfl rfl rfl
theorem oc_180g {hp : List AE} (h : hp_ok GG hp) : ∃ (p0 : Int32) (n : Nat) (sz : Nat) (lim : Nat) (a : Nat) (fr : Nat) (kd : Nat) (nu : Int32) (sg : Int32) (fa : Int32) (pl : Int32) (wd : Int64) (td : Int32) (sm : Int32) (pm : Int32) (pn : Int32) (fm : Int32) (te : Int32) (gu : Int32) (pr : List Value), hp[180]? = some (.inr (11, .int p0 :: .ref 181 :: .int (Int32.ofNat n) :: .int (Int32.ofNat sz) :: .int (Int32.ofNat lim) :: .int (Int32.ofNat a) :: .int (Int32.ofNat fr) :: .int (Int32.ofNat kd) :: .int nu :: .int sg :: .int fa :: .int pl :: .long wd :: .int td :: .ref 182 :: .ref 183 :: .ref 184 :: .ref 185 :: .ref 186 :: .ref 187 :: .ref 188 :: .ref 189 :: .ref 190 :: .ref 191 :: .int sm :: .ref 192 :: .ref 193 :: .ref 194 :: .int pm :: .int pn :: .ref 195 :: .ref 196 :: .int fm :: .int te :: .int gu :: pr)) ∧ n ≤ 940 := by
  obtain ⟨q1, q2⟩ := h.1 180 gc180 rfl
  obtain ⟨fs, e1, e2⟩ := hh_obj q1
  have g : ∀ i v, fs[i]? = some v → ∀ ft, lkp gc180.2.2 i = some ft → ft_ok ft v := fun i v hv ft hf => (q2 i v (by unfold hq; rw [e1]; exact hv)).2 ft hf
  obtain ⟨f0, fs0, rfl, k0⟩ := len_s e2
  obtain ⟨f1, fs1, rfl, k1⟩ := len_s k0
  obtain ⟨f2, fs2, rfl, k2⟩ := len_s k1
  obtain ⟨f3, fs3, rfl, k3⟩ := len_s k2
  obtain ⟨f4, fs4, rfl, k4⟩ := len_s k3
  obtain ⟨f5, fs5, rfl, k5⟩ := len_s k4
  obtain ⟨f6, fs6, rfl, k6⟩ := len_s k5
  obtain ⟨f7, fs7, rfl, k7⟩ := len_s k6
  obtain ⟨f8, fs8, rfl, k8⟩ := len_s k7
  obtain ⟨f9, fs9, rfl, k9⟩ := len_s k8
  obtain ⟨f10, fs10, rfl, k10⟩ := len_s k9
  obtain ⟨f11, fs11, rfl, k11⟩ := len_s k10
  obtain ⟨f12, fs12, rfl, k12⟩ := len_s k11
  obtain ⟨f13, fs13, rfl, k13⟩ := len_s k12
  obtain ⟨f14, fs14, rfl, k14⟩ := len_s k13
  obtain ⟨f15, fs15, rfl, k15⟩ := len_s k14
  obtain ⟨f16, fs16, rfl, k16⟩ := len_s k15
  obtain ⟨f17, fs17, rfl, k17⟩ := len_s k16
  obtain ⟨f18, fs18, rfl, k18⟩ := len_s k17
  obtain ⟨f19, fs19, rfl, k19⟩ := len_s k18
  obtain ⟨f20, fs20, rfl, k20⟩ := len_s k19
  obtain ⟨f21, fs21, rfl, k21⟩ := len_s k20
  obtain ⟨f22, fs22, rfl, k22⟩ := len_s k21
  obtain ⟨f23, fs23, rfl, k23⟩ := len_s k22
  obtain ⟨f24, fs24, rfl, k24⟩ := len_s k23
  obtain ⟨f25, fs25, rfl, k25⟩ := len_s k24
  obtain ⟨f26, fs26, rfl, k26⟩ := len_s k25
  obtain ⟨f27, fs27, rfl, k27⟩ := len_s k26
  obtain ⟨f28, fs28, rfl, k28⟩ := len_s k27
  obtain ⟨f29, fs29, rfl, k29⟩ := len_s k28
  obtain ⟨f30, fs30, rfl, k30⟩ := len_s k29
  obtain ⟨f31, fs31, rfl, k31⟩ := len_s k30
  obtain ⟨f32, fs32, rfl, k32⟩ := len_s k31
  obtain ⟨f33, fs33, rfl, k33⟩ := len_s k32
  obtain ⟨f34, fs34, rfl, k34⟩ := len_s k33
  obtain ⟨x0, rfl, b0, d0⟩ := g 0 f0 rfl _ rfl
  obtain rfl : f1 = .ref 181 := g 1 f1 rfl _ rfl
  obtain ⟨x2, rfl, b2, d2⟩ := g 2 f2 rfl _ rfl
  have z2 := i32_nz b2
  obtain ⟨x3, rfl, b3, d3⟩ := g 3 f3 rfl _ rfl
  obtain ⟨sz, rfl⟩ := i32_nat x3
  obtain ⟨x4, rfl, b4, d4⟩ := g 4 f4 rfl _ rfl
  obtain ⟨lim, rfl⟩ := i32_nat x4
  obtain ⟨x5, rfl, b5, d5⟩ := g 5 f5 rfl _ rfl
  obtain ⟨a, rfl⟩ := i32_nat x5
  obtain ⟨x6, rfl, b6, d6⟩ := g 6 f6 rfl _ rfl
  obtain ⟨fr, rfl⟩ := i32_nat x6
  obtain ⟨x7, rfl, b7, d7⟩ := g 7 f7 rfl _ rfl
  obtain ⟨kd, rfl⟩ := i32_nat x7
  obtain ⟨x8, rfl, b8, d8⟩ := g 8 f8 rfl _ rfl
  obtain ⟨x9, rfl, b9, d9⟩ := g 9 f9 rfl _ rfl
  obtain ⟨x10, rfl, b10, d10⟩ := g 10 f10 rfl _ rfl
  obtain ⟨x11, rfl, b11, d11⟩ := g 11 f11 rfl _ rfl
  obtain ⟨x12, rfl, -, -⟩ := g 12 f12 rfl _ rfl
  obtain ⟨x13, rfl, b13, d13⟩ := g 13 f13 rfl _ rfl
  obtain rfl : f14 = .ref 182 := g 14 f14 rfl _ rfl
  obtain rfl : f15 = .ref 183 := g 15 f15 rfl _ rfl
  obtain rfl : f16 = .ref 184 := g 16 f16 rfl _ rfl
  obtain rfl : f17 = .ref 185 := g 17 f17 rfl _ rfl
  obtain rfl : f18 = .ref 186 := g 18 f18 rfl _ rfl
  obtain rfl : f19 = .ref 187 := g 19 f19 rfl _ rfl
  obtain rfl : f20 = .ref 188 := g 20 f20 rfl _ rfl
  obtain rfl : f21 = .ref 189 := g 21 f21 rfl _ rfl
  obtain rfl : f22 = .ref 190 := g 22 f22 rfl _ rfl
  obtain rfl : f23 = .ref 191 := g 23 f23 rfl _ rfl
  obtain ⟨x24, rfl, b24, d24⟩ := g 24 f24 rfl _ rfl
  obtain rfl : f25 = .ref 192 := g 25 f25 rfl _ rfl
  obtain rfl : f26 = .ref 193 := g 26 f26 rfl _ rfl
  obtain rfl : f27 = .ref 194 := g 27 f27 rfl _ rfl
  obtain ⟨x28, rfl, b28, d28⟩ := g 28 f28 rfl _ rfl
  obtain ⟨x29, rfl, b29, d29⟩ := g 29 f29 rfl _ rfl
  obtain rfl : f30 = .ref 195 := g 30 f30 rfl _ rfl
  obtain rfl : f31 = .ref 196 := g 31 f31 rfl _ rfl
  obtain ⟨x32, rfl, b32, d32⟩ := g 32 f32 rfl _ rfl
  obtain ⟨x33, rfl, b33, d33⟩ := g 33 f33 rfl _ rfl
  obtain ⟨x34, rfl, b34, d34⟩ := g 34 f34 rfl _ rfl
  exact ⟨x0, x2.toInt.toNat, sz, lim, a, fr, kd, x8, x9, x10, x11, x12, x13, x24, x28, x29, x32, x33, x34, fs34, by rw [← z2]; exact e1, by omega⟩
theorem gu_eq {hp hc hd : List AE} {r r2 : Int32} {k1 k2 : Nat} (G : hp_ok GG hp) (hlen : Nat.ble 204 hp.length = true) (C : CUR hp) (hz : ∃ z : Int32, hq hp 1 1 = some (.int z) ∧ hq hp 180 2 = some (.int z)) (f1 : FR k1 23 [.ref 0] hp (some (.int r), hc)) (f2 : FR k2 208 [.ref 180] hc (some (.int r2), hd)) : r2 = r ∧ ∃ z : Int32, hq hd 0 16 = some (.int z) ∧ hq hd 180 34 = some (.int z) := by
  obtain ⟨d, s, se, ss, lt, fb, tq, gb, e0, hd0, hs0, hse0, hss0⟩ := oc_0 G
  obtain ⟨n, lim, a, kd, pl, w, le, nu, tk, fa, fp, e1, hn, hw⟩ := oc_1 G
  obtain ⟨p0, n2, sz, lim2, a2, fr, kd2, nu2, sg, fa2, pl2, wd, td, sm, pm, pn, fm, te, gu, pr, e180, hn2⟩ := oc_180g G
  obtain rfl : n = n2 := by
    obtain ⟨z, z1, z2⟩ := hz
    rw [hq_obj e1] at z1
    rw [hq_obj e180] at z2
    have y1 : some (Value.int (Int32.ofNat n)) = some (.int z) := z1
    have y2 : some (Value.int (Int32.ofNat n2)) = some (.int z) := z2
    have e := congrArg Int32.toInt (Value.int.inj (Option.some.inj (y1.trans y2.symm)))
    rw [n_int (by omega), n_int (by omega)] at e
    omega
  obtain ⟨nw, -, kw, e182⟩ := ai_of (hp := hp) (a := 182) (t := 1) (n := 396) (G.1 182 gc182 rfl).1
  rcases C with ⟨h0d, -, hD⟩ | ⟨h0d, -, hD⟩
  · rw [hq_obj e0] at h0d
    have h0d : some (Value.ref d) = some (.ref 3) := h0d
    obtain rfl := Value.ref.inj (Option.some.inj h0d)
    obtain ⟨P, Dn, lw, cl, id, gl, bo, pn, ri, lf, wa, fo, dn, ha, pa, bl, rd, rn, g0, -, -, -, g4, -, -, -, -, -, y1, y2, df, y4, y5⟩ := hD
    have nr : ∀ j, j < 101 → nw[j]? = rd[j]? := fun j hj => map_i (by rw [← y4 j hj, Nat.zero_add, hq_int e182])
    obtain ⟨hP, hDn, hl, hN, ⟨v0, v1, v19, v19b, v44, v44b, vp, vd, vf⟩, ⟨X, Y, hw1, hw2⟩, -, -, -⟩ := df
    have hv := (nr 0 (by decide)).trans v0
    have hX : ∀ q, q < 7 → wa[q]? = some (Int32.ofNat (X q)) ∧ X q < 128 := fun q hq => ⟨(hw1 q hq).1, (hw1 q hq).2.1⟩
    have hY : ∀ q, q < 7 → nw[45 + q]? = some (Int32.ofNat (Y q)) ∧ Y q < 128 := fun q hq => ⟨(nr _ (by omega)).trans (hw1 q hq).2.2.1, p7_lt (hw1 q hq).2.2.2 hP⟩
    have hxy : ∀ s, s < 2 ^ P → nxL Y s 7 0 s = s ||| wbL X s P 0 0 := fun s hs => nx_wb hP hs (fun q hq => (hw1 q hq).2.2.2) hw2
    obtain ⟨q3, q4⟩ := vi_inj (FR.det f1 (x_gu3 hlen e0 g0 g4 hX hP))
    subst q4
    obtain ⟨q5, q6⟩ := vi_inj (FR.det f2 (m_gu (ov_hl hlen) ((ov_no rfl).trans e180) ((ov_no rfl).trans e182) hv hY hP hxy))
    subst q6
    refine ⟨q5.trans ((by rw [g_eq hP] : _ = _).trans q3.symm), Int32.ofNat (upg X P (2 ^ P) 0 (2 ^ P - 1)), ?_, ?_⟩
    · exact (hq_obj ((ov_no rfl).trans (ov_at rfl (ov_lt hlen (by decide))))).trans rfl
    · rw [g_eq hP]
      exact (hq_obj (ov_at rfl (ov_lt (ov_hl hlen) (by decide)))).trans rfl
  · rw [hq_obj e0] at h0d
    have h0d : some (Value.ref d) = some (.ref 13) := h0d
    obtain rfl := Value.ref.inj (Option.some.inj h0d)
    obtain ⟨P, Dn, lw, cl, id, gl, bo, pn, ri, lf, wa, fo, dn, ha, pa, bl, rd, rn, g0, -, -, -, g4, -, -, -, -, -, y1, y2, df, y4, y5⟩ := hD
    have nr : ∀ j, j < 101 → nw[j]? = rd[j]? := fun j hj => map_i (by rw [← y4 j hj, Nat.zero_add, hq_int e182])
    obtain ⟨hP, hDn, hl, hN, ⟨v0, v1, v19, v19b, v44, v44b, vp, vd, vf⟩, ⟨X, Y, hw1, hw2⟩, -, -, -⟩ := df
    have hv := (nr 0 (by decide)).trans v0
    have hX : ∀ q, q < 7 → wa[q]? = some (Int32.ofNat (X q)) ∧ X q < 128 := fun q hq => ⟨(hw1 q hq).1, (hw1 q hq).2.1⟩
    have hY : ∀ q, q < 7 → nw[45 + q]? = some (Int32.ofNat (Y q)) ∧ Y q < 128 := fun q hq => ⟨(nr _ (by omega)).trans (hw1 q hq).2.2.1, p7_lt (hw1 q hq).2.2.2 hP⟩
    have hxy : ∀ s, s < 2 ^ P → nxL Y s 7 0 s = s ||| wbL X s P 0 0 := fun s hs => nx_wb hP hs (fun q hq => (hw1 q hq).2.2.2) hw2
    obtain ⟨q3, q4⟩ := vi_inj (FR.det f1 (x_gu13 hlen e0 g0 g4 hX hP))
    subst q4
    obtain ⟨q5, q6⟩ := vi_inj (FR.det f2 (m_gu (ov_hl hlen) ((ov_no rfl).trans e180) ((ov_no rfl).trans e182) hv hY hP hxy))
    subst q6
    refine ⟨q5.trans ((by rw [g_eq hP] : _ = _).trans q3.symm), Int32.ofNat (upg X P (2 ^ P) 0 (2 ^ P - 1)), ?_, ?_⟩
    · exact (hq_obj ((ov_no rfl).trans (ov_at rfl (ov_lt hlen (by decide))))).trans rfl
    · rw [g_eq hP]
      exact (hq_obj (ov_at rfl (ov_lt (ov_hl hlen) (by decide)))).trans rfl
theorem x_gd {H : List AE} (hlen : Nat.ble 204 H.length = true) {d : Nat} {s se ss : Nat} {lt fb tq gb : Int32} (h0 : H[0]? = some (.inr (10, [.ref 1, .ref d, .ref s, .ref 23, .ref 31, .ref 39, .ref 105, .ref se, .ref ss, .ref 120, .ref 125, .ref 129, .ref 131, .int lt, .int fb, .int tq, .int gb]))) : FR 1 22 [.ref 0] H (some (.int gb), ov H []) := by
  refine FR_ov (l := [(0, .inr (10, [.ref 1, .ref d, .ref s, .ref 23, .ref 31, .ref 39, .ref 105, .ref se, .ref ss, .ref 120, .ref 125, .ref 129, .ref 131, .int lt, .int fb, .int tq, .int gb]))]) (l2 := [(0, .inr (10, [.ref 1, .ref d, .ref s, .ref 23, .ref 31, .ref 39, .ref 105, .ref se, .ref ss, .ref 120, .ref 125, .ref 129, .ref 131, .int lt, .int fb, .int tq, .int gb]))]) (ov_c1 h0) rfl (ov_c1 h0) ?_
  refine RT_step (pc2 := 1) rfl (fun _ _ => rfl) ?_
  refine ow_gf rfl rfl rfl hlen rfl ?_
  exact ow_irt rfl rfl rfl
theorem m_gd {H : List AE} (hlen : Nat.ble 204 H.length = true) {sm pm pn fm te gu p0 p2 nu sg fa pl td : Int32} {sz lim a fr kd : Nat} {wd : Int64} {pr : List Value} (h0 : H[180]? = some (mcl p0 p2 sz lim a fr kd nu sg fa pl wd td (pof (.int sm :: .ref 192 :: .ref 193 :: .ref 194 :: .int pm :: .int pn :: .ref 195 :: .ref 196 :: .int fm :: .int te :: .int gu :: pr)))) : FR 1 207 [.ref 180] H (some (.int gu), ov H [(180, mcl (Int32.ofNat 0) p2 sz lim a fr kd nu sg fa pl wd td (pof (.int sm :: .ref 192 :: .ref 193 :: .ref 194 :: .int pm :: .int pn :: .ref 195 :: .ref 196 :: .int fm :: .int te :: .int gu :: pr)))]) := by
  refine FR_ov (l := [(180, mcl p0 p2 sz lim a fr kd nu sg fa pl wd td (pof (.int sm :: .ref 192 :: .ref 193 :: .ref 194 :: .int pm :: .int pn :: .ref 195 :: .ref 196 :: .int fm :: .int te :: .int gu :: pr)))]) (l2 := [(180, mcl (Int32.ofNat 0) p2 sz lim a fr kd nu sg fa pl wd td (pof (.int sm :: .ref 192 :: .ref 193 :: .ref 194 :: .int pm :: .int pn :: .ref 195 :: .ref 196 :: .int fm :: .int te :: .int gu :: pr)))]) (ov_c1 h0) rfl rfl ?_
  refine RT_step (pc2 := 1) rfl (fun _ _ => rfl) ?_
  refine rt_ico rfl ki_0 ?_
  refine ow_pf rfl rfl rfl rfl rfl hlen rfl rfl ?_
  refine RT_step (pc2 := 6) rfl (fun _ _ => rfl) ?_
  refine ow_gf rfl rfl rfl hlen rfl ?_
  exact ow_irt rfl rfl rfl
theorem gd_eq {hp hc hd : List AE} {r r2 : Int32} {k1 k2 : Nat} (G : hp_ok GG hp) (hlen : Nat.ble 204 hp.length = true) (C : CUR hp) (hz : ∃ z : Int32, hq hp 1 1 = some (.int z) ∧ hq hp 180 2 = some (.int z)) (hg : ∃ z : Int32, hq hp 0 16 = some (.int z) ∧ hq hp 180 34 = some (.int z)) (f1 : FR k1 22 [.ref 0] hp (some (.int r), hc)) (f2 : FR k2 207 [.ref 180] hc (some (.int r2), hd)) : r2 = r := by
  obtain ⟨d, s, se, ss, lt, fb, tq, gb, e0, hd0, hs0, hse0, hss0⟩ := oc_0 G
  obtain ⟨n, lim, a, kd, pl, w, le, nu, tk, fa, fp, e1, hn, hw⟩ := oc_1 G
  obtain ⟨p0, n2, sz, lim2, a2, fr, kd2, nu2, sg, fa2, pl2, wd, td, sm, pm, pn, fm, te, gu, pr, e180, hn2⟩ := oc_180g G
  obtain rfl : n = n2 := by
    obtain ⟨z, z1, z2⟩ := hz
    rw [hq_obj e1] at z1
    rw [hq_obj e180] at z2
    have y1 : some (Value.int (Int32.ofNat n)) = some (.int z) := z1
    have y2 : some (Value.int (Int32.ofNat n2)) = some (.int z) := z2
    have e := congrArg Int32.toInt (Value.int.inj (Option.some.inj (y1.trans y2.symm)))
    rw [n_int (by omega), n_int (by omega)] at e
    omega
  obtain ⟨q3, q4⟩ := vi_inj (FR.det f1 (x_gd hlen e0))
  have q4 : hc = hp := q4
  subst q4
  obtain ⟨q5, -⟩ := vi_inj (FR.det f2 (m_gd hlen e180))
  obtain ⟨z, g1, g2⟩ := hg
  rw [hq_obj e0] at g1
  rw [hq_obj e180] at g2
  have g1 : some (Value.int gb) = some (.int z) := g1
  have g2 : some (Value.int gu) = some (.int z) := g2
  have e := Value.int.inj (Option.some.inj (g1.trans g2.symm))
  rw [q3, q5, e]
