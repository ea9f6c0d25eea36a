/-! ===== locals, branches ===== -/
def slg : SL → Nat → Option SV
  | [], _ => none
  | q :: A, n => cond (Nat.beq q.1 n) (some q.2) (slg A n)
theorem slg_mem {A : SL} {n : Nat} {a : SV} (h : slg A n = some a) : (n, a) ∈ A := by
  induction A with
  | nil => cases h
  | cons q A ih =>
    unfold slg at h
    cases hc : Nat.beq q.1 n with
    | true => rw [hc] at h; cases h; rw [← Nat.eq_of_beq_eq_true hc]; exact List.mem_cons_self
    | false => rw [hc] at h; exact List.mem_cons_of_mem _ (ih h)
theorem ev_g_fl {p : Nat × Value → Bool} {L : List (Nat × Value)} {j : Nat} {w : Value} (h : ev_g L j = some w) (hp : p (j, w) = true) : ev_g (L.filter p) j = some w := by
  induction L with
  | nil => cases h
  | cons q L ih =>
    unfold ev_g at h
    cases hc : Nat.beq q.1 j with
    | true =>
      rw [hc] at h
      cases h
      have e : q = (j, q.2) := by rw [← Nat.eq_of_beq_eq_true hc]
      rw [List.filter_cons, e, if_pos hp]
      unfold ev_g
      rw [show Nat.beq (j, q.2).1 j = true from Nat.beq_refl j]
      rfl
    | false =>
      rw [hc] at h
      rw [List.filter_cons]
      split
      · unfold ev_g
        rw [hc]
        exact ih h
      · exact ih h
theorem sv_cat {ρ : List Int} {a : SV} {v : Value} (h : sv_ok ρ a v) : v.category = cond (Nat.beq a.1 1) 2 1 := by
  match a, h with
  | (0, k, c), ⟨x, z, h1, h2, h3⟩ => rw [h1]; rfl
  | (1, k, c), ⟨x, z, h1, h2, h3⟩ => rw [h1]; rfl
  | (2, k, c), h => rw [show v = .ref k from h]; rfl
  | (3, k, c), ⟨n, z, h1, h2, h3, h4⟩ => rw [h1]; rfl
  | (n + 4, k, c), h => rw [show v = .retAddr k from h]; rfl
def sl1 (A : SL) (n : Nat) (a : SV) : SL := (n, a) :: A.filter (fun q => !(Nat.beq q.1 n) && !(Nat.beq (q.1 + 1) n && Nat.beq q.2.1 1))
def sl2 (A : SL) (n : Nat) (a : SV) : SL := (n, a) :: A.filter (fun q => !(Nat.beq q.1 n) && (!(Nat.beq q.1 (n + 1)) && !(Nat.beq (q.1 + 1) n && Nat.beq q.2.1 1)))
theorem nbeq (a b : Nat) : (a == b) = Nat.beq a b := by
  cases h : Nat.beq a b with
  | true => rw [Nat.eq_of_beq_eq_true h]; exact beq_self_eq_true b
  | false => exact beq_eq_false_iff_ne.mpr (Nat.ne_of_beq_eq_false h)
theorem ev_g_hd {L : List (Nat × Value)} {n : Nat} {v : Value} : ev_g ((n, v) :: L) n = some v := by
  unfold ev_g
  rw [show Nat.beq (n, v).1 n = true from Nat.beq_refl n]
  rfl
theorem ev_g_tl {L : List (Nat × Value)} {n j : Nat} {v w : Value} (h : Nat.beq n j = false) (hw : ev_g L j = some w) : ev_g ((n, v) :: L) j = some w := by
  unfold ev_g
  rw [show Nat.beq (n, v).1 j = false from h]
  exact hw
theorem nbeq_c {a b : Nat} (h : Nat.beq a b = false) : Nat.beq b a = false := by
  cases hc : Nat.beq b a with
  | false => rfl
  | true => rw [Nat.eq_of_beq_eq_true hc] at h; rw [Nat.beq_refl] at h; cases h
theorem sl1_ok {ρ : List Int} {A : SL} {L : List (Nat × Value)} {n : Nat} {a : SV} {v : Value} (h : sl_ok ρ A L) (ha : sv_ok ρ a v) : sl_ok ρ (sl1 A n a) (ev_s1 L n v) := by
  intro q hq
  unfold sl1 at hq
  rcases List.mem_cons.mp hq with rfl | hq
  · exact ⟨v, ev_g_hd, ha⟩
  · obtain ⟨hm, hc⟩ := List.mem_filter.mp hq
    obtain ⟨w, h1, h2⟩ := h q hm
    rw [Bool.and_eq_true] at hc
    have hne : Nat.beq q.1 n = false := by simpa using hc.1
    refine ⟨w, ev_g_tl (nbeq_c hne) (ev_g_fl h1 ?_), h2⟩
    rw [Bool.and_eq_true]
    refine ⟨by rw [nbeq]; simpa using hne, ?_⟩
    have h3 := hc.2
    rw [sv_cat h2]
    cases ht : Nat.beq q.2.1 1 with
    | true => rw [ht] at h3; rw [nbeq]; simpa using h3
    | false => simp
theorem sl2_ok {ρ : List Int} {A : SL} {L : List (Nat × Value)} {n : Nat} {a : SV} {v : Value} (h : sl_ok ρ A L) (ha : sv_ok ρ a v) : sl_ok ρ (sl2 A n a) (ev_s2 L n v) := by
  intro q hq
  unfold sl2 at hq
  rcases List.mem_cons.mp hq with rfl | hq
  · exact ⟨v, ev_g_hd, ha⟩
  · obtain ⟨hm, hc⟩ := List.mem_filter.mp hq
    obtain ⟨w, h1, h2⟩ := h q hm
    rw [Bool.and_eq_true, Bool.and_eq_true] at hc
    have hne : Nat.beq q.1 n = false := by simpa using hc.1
    have hne2 : Nat.beq q.1 (n + 1) = false := by simpa using hc.2.1
    refine ⟨w, ev_g_tl (nbeq_c hne) (ev_g_fl h1 ?_), h2⟩
    rw [Bool.and_eq_true, Bool.and_eq_true]
    refine ⟨by rw [nbeq]; simpa using hne, by rw [nbeq]; simpa using hne2, ?_⟩
    have h3 := hc.2.2
    rw [sv_cat h2]
    cases ht : Nat.beq q.2.1 1 with
    | true => rw [ht] at h3; rw [nbeq]; simpa using h3
    | false => simp
/-! what a comparison tells -/
def ltR (E : EN) (k1 : Nat) (c1 : Int) (k2 : Nat) (c2 : Int) : Option EN :=
  cond (decide (0 ≤ dlo E 12 k1 c1 k2 c2)) none
    (some (er (er E k1 (eg E k1).1 ((eg E k2).2.1 + c2 - 1 - c1)) k2 ((eg E k1).1 + c1 + 1 - c2) (eg E k2).2.1))
def leR (E : EN) (k1 : Nat) (c1 : Int) (k2 : Nat) (c2 : Int) : Option EN :=
  cond (decide (1 ≤ dlo E 12 k1 c1 k2 c2)) none
    (some (er (er E k1 (eg E k1).1 ((eg E k2).2.1 + c2 - c1)) k2 ((eg E k1).1 + c1 - c2) (eg E k2).2.1))
def eqR (E : EN) (k1 : Nat) (c1 : Int) (k2 : Nat) (c2 : Int) : Option EN :=
  cond (decide (1 ≤ dlo E 12 k1 c1 k2 c2) || decide (1 ≤ dlo E 12 k2 c2 k1 c1)) none
    (some (er (er E k1 ((eg E k2).1 + c2 - c1) ((eg E k2).2.1 + c2 - c1)) k2 ((eg E k1).1 + c1 - c2) ((eg E k1).2.1 + c1 - c2)))
/-- unlike this constant -/
def nec (E : EN) (k : Nat) (c : Int) : Option EN :=
  cond (decide ((eg E k).1 = c)) (cond (decide ((eg E k).2.1 = c)) none (some (er E k (c + 1) (eg E k).2.1)))
    (cond (decide ((eg E k).2.1 = c)) (some (er E k (eg E k).1 (c - 1))) (some E))
def neR (E : EN) (k1 : Nat) (c1 : Int) (k2 : Nat) (c2 : Int) : Option EN :=
  cond (Nat.beq k1 k2) (cond (decide (c1 = c2)) none (some E))
    (cond (decide ((eg E k2).1 = (eg E k2).2.1)) (nec E k1 ((eg E k2).1 + c2 - c1)) (cond (decide ((eg E k1).1 = (eg E k1).2.1)) (nec E k2 ((eg E k1).1 + c1 - c2)) (some E)))
theorem ltR_ok {ρ : List Int} {E : EN} {k1 k2 : Nat} {c1 c2 z1 z2 : Int} (h : en_ok ρ E) (h1 : ρ[k1]? = some z1) (h2 : ρ[k2]? = some z2) (hl : z1 + c1 < z2 + c2) : ∃ E2, ltR E k1 c1 k2 c2 = some E2 ∧ en_ok ρ E2 := by
  have hd := dlo_ok h 12 k1 c1 k2 c2 z1 z2 h1 h2
  obtain ⟨a1, a2, -⟩ := eg_ok h h1
  obtain ⟨b1, b2, -⟩ := eg_ok h h2
  unfold ltR
  rw [show decide (0 ≤ dlo E 12 k1 c1 k2 c2) = false from decide_eq_false (by omega)]
  exact ⟨_, rfl, er_ok (er_ok h h1 a1 (by omega)) h2 (by omega) b2⟩
theorem leR_ok {ρ : List Int} {E : EN} {k1 k2 : Nat} {c1 c2 z1 z2 : Int} (h : en_ok ρ E) (h1 : ρ[k1]? = some z1) (h2 : ρ[k2]? = some z2) (hl : z1 + c1 ≤ z2 + c2) : ∃ E2, leR E k1 c1 k2 c2 = some E2 ∧ en_ok ρ E2 := by
  have hd := dlo_ok h 12 k1 c1 k2 c2 z1 z2 h1 h2
  obtain ⟨a1, a2, -⟩ := eg_ok h h1
  obtain ⟨b1, b2, -⟩ := eg_ok h h2
  unfold leR
  rw [show decide (1 ≤ dlo E 12 k1 c1 k2 c2) = false from decide_eq_false (by omega)]
  exact ⟨_, rfl, er_ok (er_ok h h1 a1 (by omega)) h2 (by omega) b2⟩
theorem eqR_ok {ρ : List Int} {E : EN} {k1 k2 : Nat} {c1 c2 z1 z2 : Int} (h : en_ok ρ E) (h1 : ρ[k1]? = some z1) (h2 : ρ[k2]? = some z2) (hl : z1 + c1 = z2 + c2) : ∃ E2, eqR E k1 c1 k2 c2 = some E2 ∧ en_ok ρ E2 := by
  have hd := dlo_ok h 12 k1 c1 k2 c2 z1 z2 h1 h2
  have hd2 := dlo_ok h 12 k2 c2 k1 c1 z2 z1 h2 h1
  obtain ⟨a1, a2, -⟩ := eg_ok h h1
  obtain ⟨b1, b2, -⟩ := eg_ok h h2
  unfold eqR
  rw [show decide (1 ≤ dlo E 12 k1 c1 k2 c2) = false from decide_eq_false (by omega), show decide (1 ≤ dlo E 12 k2 c2 k1 c1) = false from decide_eq_false (by omega)]
  exact ⟨_, rfl, er_ok (er_ok h h1 (by omega) (by omega)) h2 (by omega) (by omega)⟩
theorem nec_ok {ρ : List Int} {E : EN} {k : Nat} {c z : Int} (h : en_ok ρ E) (h1 : ρ[k]? = some z) (hl : z ≠ c) : ∃ E2, nec E k c = some E2 ∧ en_ok ρ E2 := by
  obtain ⟨a1, a2, -⟩ := eg_ok h h1
  unfold nec
  by_cases p : (eg E k).1 = c
  · rw [decide_eq_true p]
    by_cases q : (eg E k).2.1 = c
    · omega
    · rw [decide_eq_false q]
      exact ⟨_, rfl, er_ok h h1 (by omega) a2⟩
  · rw [decide_eq_false p]
    by_cases q : (eg E k).2.1 = c
    · rw [decide_eq_true q]
      exact ⟨_, rfl, er_ok h h1 a1 (by omega)⟩
    · rw [decide_eq_false q]
      exact ⟨_, rfl, h⟩
theorem neR_ok {ρ : List Int} {E : EN} {k1 k2 : Nat} {c1 c2 z1 z2 : Int} (h : en_ok ρ E) (h1 : ρ[k1]? = some z1) (h2 : ρ[k2]? = some z2) (hl : z1 + c1 ≠ z2 + c2) : ∃ E2, neR E k1 c1 k2 c2 = some E2 ∧ en_ok ρ E2 := by
  obtain ⟨a1, a2, -⟩ := eg_ok h h1
  obtain ⟨b1, b2, -⟩ := eg_ok h h2
  unfold neR
  cases hk : Nat.beq k1 k2 with
  | true =>
    have e := Nat.eq_of_beq_eq_true hk
    subst e
    rw [h1] at h2
    cases h2
    rw [decide_eq_false (show ¬ c1 = c2 by omega)]
    exact ⟨_, rfl, h⟩
  | false =>
    by_cases p : (eg E k2).1 = (eg E k2).2.1
    · rw [decide_eq_true p]
      exact nec_ok h h1 (by omega)
    · rw [decide_eq_false p]
      by_cases q : (eg E k1).1 = (eg E k1).2.1
      · rw [decide_eq_true q]
        exact nec_ok h h2 (by omega)
      · rw [decide_eq_false q]
        exact ⟨_, rfl, h⟩
/-- the bounds of these two must hold something -/
def gd (k1 k2 : Nat) : Option EN → Option EN
  | none => none
  | some E => cond (ifz E k1 && ifz E k2) (some E) none
theorem gd_ok {ρ : List Int} {o : Option EN} {k1 k2 : Nat} {z1 z2 : Int} (h1 : ρ[k1]? = some z1) (h2 : ρ[k2]? = some z2) (h : ∃ E2, o = some E2 ∧ en_ok ρ E2) : ∃ E2, gd k1 k2 o = some E2 ∧ en_ok ρ E2 := by
  obtain ⟨E2, rfl, he⟩ := h
  refine ⟨E2, ?_, he⟩
  show cond (ifz E2 k1 && ifz E2 k2) (some E2) none = _
  rw [ifz_ok he h1, ifz_ok he h2]
  rfl
/-- 0 =, 1 ≠, 2 <, 3 ≥, 4 >, 5 ≤ -/
def cmpR (c : Nat) (E : EN) (k1 : Nat) (c1 : Int) (k2 : Nat) (c2 : Int) : Option EN :=
  gd k1 k2 (match c with
  | 0 => eqR E k1 c1 k2 c2
  | 1 => neR E k1 c1 k2 c2
  | 2 => ltR E k1 c1 k2 c2
  | 3 => leR E k2 c2 k1 c1
  | 4 => ltR E k2 c2 k1 c1
  | _ => leR E k1 c1 k2 c2)
def cmpP (c : Nat) (a b : Int) : Prop := match c with
  | 0 => a = b
  | 1 => a ≠ b
  | 2 => a < b
  | 3 => b ≤ a
  | 4 => b < a
  | _ => a ≤ b
theorem cmpR_ok {ρ : List Int} {E : EN} {c k1 k2 : Nat} {c1 c2 z1 z2 : Int} (h : en_ok ρ E) (h1 : ρ[k1]? = some z1) (h2 : ρ[k2]? = some z2) (hl : cmpP c (z1 + c1) (z2 + c2)) : ∃ E2, cmpR c E k1 c1 k2 c2 = some E2 ∧ en_ok ρ E2 := by
  unfold cmpR
  refine gd_ok h1 h2 ?_
  unfold cmpP at hl
  split at hl
  · exact eqR_ok h h1 h2 hl
  · exact neR_ok h h1 h2 hl
  · exact ltR_ok h h1 h2 hl
  · exact leR_ok h h2 h1 hl
  · exact ltR_ok h h2 h1 hl
  · rename_i n1 n2 n3 n4 n5
    exact leR_ok h h1 h2 hl
def oL (pc : Nat) (S : SS) (r : List SV) : Option EN → List (Nat × SS)
  | none => []
  | some E => [(pc, (E, S.2.1, r, S.2.2.2))]
def neg : Nat → Nat
  | 0 => 1
  | 1 => 0
  | 2 => 3
  | 3 => 2
  | 4 => 5
  | _ => 4
def br2 (c x pc : Nat) (S : SS) (k1 : Nat) (c1 : Int) (k2 : Nat) (c2 : Int) (r : List SV) : List (Nat × SS) :=
  oL x S r (cmpR c S.1 k1 c1 k2 c2) ++ oL (pc + 3) S r (cmpR (neg c) S.1 k1 c1 k2 c2)
theorem neg_ok {c : Nat} {a b : Int} (h : ¬ cmpP c a b) : cmpP (neg c) a b := by
  match c, h with
  | 0, h => exact h
  | 1, h => exact Classical.not_not.mp h
  | 2, h => exact Int.not_lt.mp h
  | 3, h => exact Int.not_le.mp h
  | 4, h => exact Int.not_lt.mp h
  | n + 5, h => exact Int.not_le.mp h
section
variable {G : GT} {W : WR} {M : MT} {dd mi pc x y : Nat} {ρ : List Int} {S : SS} {L : List (Nat × Value)} {st : List Value} {hp : List AE} {l : List (Nat × SS)} {i : Instr}
theorem so_mk {s : Nat × SS} {τ : List Int} {L2 : List (Nat × Value)} {st2 : List Value} {hp2 : List AE} (hf : mF M mi pc = some (i, x, y)) (hm : s ∈ l) (h : st_ok G (ρ ++ τ) s.2 L2 st2 hp2) (ha : Agr W hp hp2) (hs : ∀ cf K, ev_s M cf mi pc i x y L st hp 0 0 K = K s.1 L2 st2 hp2 0 0) : SOk G W M dd mi pc ρ L st hp l :=
  ⟨s, hm, τ, L2, st2, hp2, h, ha, fun _ hq => RT_step hf hs hq⟩
theorem br2_ok {c k1 k2 : Nat} {c1 c2 z1 z2 : Int} {A : List SV} {r : List Value} {tk : Bool} (hf : mF M mi pc = some (i, x, y)) (h : st_ok G ρ S L st hp) (hA : ss_ok ρ A r) (h1 : ρ[k1]? = some z1) (h2 : ρ[k2]? = some z2) (ht : if tk = true then cmpP c (z1 + c1) (z2 + c2) else ¬ cmpP c (z1 + c1) (z2 + c2)) (hs : ∀ cf K, ev_s M cf mi pc i x y L st hp 0 0 K = K (if tk = true then x else pc + 3) L r hp 0 0) : SOk G W M dd mi pc ρ L st hp (br2 c x pc S k1 c1 k2 c2 A) := by
  cases tk with
  | true =>
    obtain ⟨E2, e1, e2⟩ := cmpR_ok h.1 h1 h2 (show cmpP c (z1 + c1) (z2 + c2) from ht)
    refine so_mk (τ := []) (s := (x, (E2, S.2.1, A, S.2.2.2))) (L2 := L) (st2 := r) (hp2 := hp) hf ?_ ?_ Agr.rf hs
    · unfold br2; rw [e1]; exact List.mem_append_left _ (List.mem_singleton.mpr rfl)
    · rw [List.append_nil]; exact ⟨e2, h.2.1, hA, h.2.2.2⟩
  | false =>
    obtain ⟨E2, e1, e2⟩ := cmpR_ok h.1 h1 h2 (neg_ok (show ¬ cmpP c (z1 + c1) (z2 + c2) from ht))
    refine so_mk (τ := []) (s := (pc + 3, (E2, S.2.1, A, S.2.2.2))) (L2 := L) (st2 := r) (hp2 := hp) hf ?_ ?_ Agr.rf hs
    · unfold br2; rw [e1]; exact List.mem_append_right _ (List.mem_singleton.mpr rfl)
    · rw [List.append_nil]; exact ⟨e2, h.2.1, hA, h.2.2.2⟩
/-- an int against 0 -/
def sy_if (c x pc : Nat) (S : SS) : Option (List (Nat × SS)) := match S.2.2.1 with
  | (0, k, a) :: r => some (br2 c x pc S k a 0 0 r)
  | _ => none
theorem sy_if_ok {c : Nat} (op : Int32 → Bool) (hop : ∀ a : Int32, if op a = true then cmpP c a.toInt 0 else ¬ cmpP c a.toInt 0) (hs : ∀ (a : Int32) r cf K, ev_s M cf mi pc i x y L (.int a :: r) hp 0 0 K = K (if op a = true then x else pc + 3) L r hp 0 0) (hf : mF M mi pc = some (i, x, y)) (h : st_ok G ρ S L st hp) (hr : sy_if c x pc S = some l) : SOk G W M dd mi pc ρ L st hp l := by
  unfold sy_if at hr
  split at hr
  · rename_i k a r hS
    cases hr
    have hA := h.2.2.1
    rw [hS] at hA
    obtain ⟨v, r1, e, hv, hA1⟩ := ss_c hA
    obtain ⟨b, z1, e2, e3, e4⟩ := hv
    subst e2 e
    refine br2_ok (tk := op b) hf h hA1 e3 h.1.2.1 ?_ (hs b r1)
    have := hop b
    rw [e4] at this
    exact this
  · cases hr
def sy_ic (c x pc : Nat) (S : SS) : Option (List (Nat × SS)) := match S.2.2.1 with
  | (0, k2, c2) :: (0, k1, c1) :: r => some (br2 c x pc S k1 c1 k2 c2 r)
  | _ => none
theorem sy_ic_ok {c : Nat} (op : Int32 → Int32 → Bool) (hop : ∀ a b : Int32, if op a b = true then cmpP c a.toInt b.toInt else ¬ cmpP c a.toInt b.toInt) (hs : ∀ (a b : Int32) r cf K, ev_s M cf mi pc i x y L (.int b :: .int a :: r) hp 0 0 K = K (if op a b = true then x else pc + 3) L r hp 0 0) (hf : mF M mi pc = some (i, x, y)) (h : st_ok G ρ S L st hp) (hr : sy_ic c x pc S = some l) : SOk G W M dd mi pc ρ L st hp l := by
  unfold sy_ic at hr
  split at hr
  · rename_i k2 c2 k1 c1 r hS
    cases hr
    have hA := h.2.2.1
    rw [hS] at hA
    obtain ⟨v, r1, e, hv, hA1⟩ := ss_c hA
    obtain ⟨w, r2, e5, hw, hA2⟩ := ss_c hA1
    obtain ⟨b, z2, e2, e3, e4⟩ := hv
    obtain ⟨a, z1, f2, f3, f4⟩ := hw
    subst e2 f2 e5 e
    refine br2_ok (tk := op a b) hf h hA2 f3 e3 ?_ (hs a b r2)
    have := hop a b
    rw [e4, f4] at this
    exact this
  · cases hr
def sy_ac (c x pc : Nat) (S : SS) : Option (List (Nat × SS)) := match S.2.2.1 with
  | (3, k2, c2) :: (3, k1, c1) :: r => some (br2 c x pc S k1 c1 k2 c2 r)
  | _ => none
theorem sy_ac_ok {c : Nat} (op : Nat → Nat → Bool) (hop : ∀ a b : Nat, if op a b = true then cmpP c (a : Int) (b : Int) else ¬ cmpP c (a : Int) (b : Int)) (hs : ∀ (a b : Nat) r cf K, a < 32 → b < 32 → ev_s M cf mi pc i x y L (.retAddr b :: .retAddr a :: r) hp 0 0 K = K (if op a b = true then x else pc + 3) L r hp 0 0) (hf : mF M mi pc = some (i, x, y)) (h : st_ok G ρ S L st hp) (hr : sy_ac c x pc S = some l) : SOk G W M dd mi pc ρ L st hp l := by
  unfold sy_ac at hr
  split at hr
  · rename_i k2 c2 k1 c1 r hS
    cases hr
    have hA := h.2.2.1
    rw [hS] at hA
    obtain ⟨v, r1, e, hv, hA1⟩ := ss_c hA
    obtain ⟨w, r2, e5, hw, hA2⟩ := ss_c hA1
    obtain ⟨b, z2, e2, e6, e3, e4⟩ := hv
    obtain ⟨a, z1, f2, f6, f3, f4⟩ := hw
    subst e2 f2 e5 e
    refine br2_ok (tk := op a b) hf h hA2 f3 e3 ?_ (fun cf K => hs a b r2 cf K f6 e6)
    have := hop a b
    rw [e4, f4] at this
    exact this
  · cases hr
theorem sy_push_ok {n : Nat} {f : PF} {q : EN × SV × List SV} (hp0 : PushOk i x y n f) (hf : mF M mi pc = some (i, x, y)) (h : st_ok G ρ S L st hp) (hq : f S.1 S.2.2.1 = some q) : SOk G W M dd mi pc ρ L st hp [(pc + n, (q.1, S.2.1, q.2.1 :: q.2.2, S.2.2.2))] := by
  obtain ⟨v, r, ⟨τ, e1, e2⟩, hA, hs⟩ := hp0 ρ S.1 S.2.2.1 st q h.1 h.2.2.1 hq
  exact so_mk hf (List.mem_singleton.mpr rfl) (τ := τ) (L2 := L) (st2 := v :: r) (hp2 := hp) ⟨e1, sl_ext h.2.1, ⟨e2, ss_ext hA⟩, sp_ext h.2.2.2.1, h.2.2.2.2⟩ Agr.rf (fun cf K => hs M cf mi pc L hp K)
/-- loads: t 0 an int, 1 a long, 2 another -/
def tgo (t : Nat) (a : SV) : Bool := match t with
  | 0 => Nat.beq a.1 0
  | 1 => Nat.beq a.1 1
  | _ => Nat.ble 2 a.1
def sy_ld (t n len pc : Nat) (S : SS) : Option (List (Nat × SS)) := match slg S.2.1 n with
  | some a => cond (tgo t a) (some [(pc + len, (S.1, S.2.1, a :: S.2.2.1, S.2.2.2))]) none
  | none => none
theorem sy_ld_ok {t n len : Nat} (hs : ∀ v a cf K, ev_g L n = some v → sv_ok ρ a v → tgo t a = true → ev_s M cf mi pc i x y L st hp 0 0 K = K (pc + len) L (v :: st) hp 0 0) (hf : mF M mi pc = some (i, x, y)) (h : st_ok G ρ S L st hp) (hr : sy_ld t n len pc S = some l) : SOk G W M dd mi pc ρ L st hp l := by
  unfold sy_ld at hr
  split at hr
  · rename_i a ha
    cases ht : tgo t a with
    | false => rw [ht] at hr; cases hr
    | true =>
      rw [ht] at hr
      cases hr
      obtain ⟨v, h1, h2⟩ := h.2.1 _ (slg_mem ha)
      refine so_mk hf (List.mem_singleton.mpr rfl) (τ := []) (L2 := L) (st2 := v :: st) (hp2 := hp) ?_ Agr.rf (fun cf K => hs v a cf K h1 h2 ht)
      rw [List.append_nil]
      exact ⟨h.1, h.2.1, ⟨h2, h.2.2.1⟩, h.2.2.2⟩
  · cases hr
def sy_st (t n len pc ml : Nat) (S : SS) : Option (List (Nat × SS)) := match S.2.2.1 with
  | a :: r => cond (tgo t a && Nat.blt (cond (Nat.beq t 1) (n + 1) n) ml) (some [(pc + len, (S.1, cond (Nat.beq t 1) (sl2 S.2.1 n a) (sl1 S.2.1 n a), r, S.2.2.2))]) none
  | [] => none
theorem sy_st_ok {t n len : Nat} (hs : ∀ v r a cf K, sv_ok ρ a v → tgo t a = true → (cond (Nat.beq t 1) (n + 1) n) < mL M mi → ev_s M cf mi pc i x y L (v :: r) hp 0 0 K = K (pc + len) (cond (Nat.beq t 1) (ev_s2 L n v) (ev_s1 L n v)) r hp 0 0) (hf : mF M mi pc = some (i, x, y)) (h : st_ok G ρ S L st hp) (hr : sy_st t n len pc (mL M mi) S = some l) : SOk G W M dd mi pc ρ L st hp l := by
  unfold sy_st at hr
  split at hr
  · rename_i a r hS
    cases hc : (tgo t a && Nat.blt (cond (Nat.beq t 1) (n + 1) n) (mL M mi)) with
    | false => rw [hc] at hr; cases hr
    | true =>
      rw [hc] at hr
      cases hr
      rw [Bool.and_eq_true] at hc
      have hA := h.2.2.1
      rw [hS] at hA
      obtain ⟨v, r1, e, hv, hA1⟩ := ss_c hA
      subst e
      refine so_mk hf (List.mem_singleton.mpr rfl) (τ := []) (L2 := cond (Nat.beq t 1) (ev_s2 L n v) (ev_s1 L n v)) (st2 := r1) (hp2 := hp) ?_ Agr.rf (fun cf K => hs v r1 a cf K hv hc.1 (Nat.le_of_ble_eq_true hc.2))
      rw [List.append_nil]
      refine ⟨h.1, ?_, hA1, h.2.2.2⟩
      cases Nat.beq t 1 with
      | true => exact sl2_ok h.2.1 hv
      | false => exact sl1_ok h.2.1 hv
  · cases hr
def sy_inc (n : Nat) (d : Int) (pc ml : Nat) (S : SS) : Option (List (Nat × SS)) := match slg S.2.1 n with
  | some (0, k, c) => cond (in32 d d && Nat.blt n ml) (some [(pc + 3, ((f_add S.1 k c 0 d).1, sl1 S.2.1 n (f_add S.1 k c 0 d).2, S.2.2.1, S.2.2.2))]) none
  | _ => none
theorem sy_inc_ok {n : Nat} {d : Int} (hf : mF M mi pc = some (.iinc n d, x, y)) (h : st_ok G ρ S L st hp) (hr : sy_inc n d pc (mL M mi) S = some l) : SOk G W M dd mi pc ρ L st hp l := by
  unfold sy_inc at hr
  split at hr
  · rename_i k c ha
    cases hc : (in32 d d && Nat.blt n (mL M mi)) with
    | false => rw [hc] at hr; cases hr
    | true =>
      rw [hc] at hr
      cases hr
      rw [Bool.and_eq_true] at hc
      obtain ⟨q1, q2⟩ := in32_ok hc.1
      obtain ⟨v, h1, b, z, h2, h3, h4⟩ := h.2.1 _ (slg_mem ha)
      subst h2
      have h1 : ev_g L n = some (.int b) := h1
      have e5 : (Int32.ofInt d).toInt = 0 + d := by rw [Int32.toInt_ofInt_of_le (by omega) (by omega)]; omega
      obtain ⟨τ, e1, e2⟩ := f_add_ok ρ S.1 k c 0 d b (Int32.ofInt d) z 0 h.1 h3 h4 h.1.2.1 e5
      refine so_mk hf (List.mem_singleton.mpr rfl) (τ := τ) (L2 := ev_s1 L n (.int (b + Int32.ofInt d))) (st2 := st) (hp2 := hp) ⟨e1, sl1_ok (sl_ext h.2.1) e2, ss_ext h.2.2.1, sp_ext h.2.2.2.1, h.2.2.2.2⟩ Agr.rf (fun cf K => ?_)
      show (ev_g L n).bind _ = _
      rw [h1]
      show (if n < mL M mi then _ else none) = _
      rw [if_pos (show n < mL M mi from Nat.le_of_ble_eq_true hc.2)]
  · cases hr
/-- goto, dup, dup2, pop -/
def sy_dup (pc : Nat) (S : SS) : Option (List (Nat × SS)) := match S.2.2.1 with
  | a :: r => cond (Nat.beq a.1 1) none (some [(pc + 1, (S.1, S.2.1, a :: a :: r, S.2.2.2))])
  | [] => none
theorem sv_c1 {a : SV} {v : Value} (h : sv_ok ρ a v) (ha : Nat.beq a.1 1 = false) : v.category = 1 := by rw [sv_cat h, ha]; rfl
theorem sy_dup_ok (hf : mF M mi pc = some (.dup, x, y)) (h : st_ok G ρ S L st hp) (hr : sy_dup pc S = some l) : SOk G W M dd mi pc ρ L st hp l := by
  unfold sy_dup at hr
  split at hr
  · rename_i a r hS
    cases hc : Nat.beq a.1 1 with
    | true => rw [hc] at hr; cases hr
    | false =>
      rw [hc] at hr
      cases hr
      have hA := h.2.2.1
      rw [hS] at hA
      obtain ⟨v, r1, e, hv, hA1⟩ := ss_c hA
      subst e
      refine so_mk hf (List.mem_singleton.mpr rfl) (τ := []) (L2 := L) (st2 := v :: v :: r1) (hp2 := hp) ?_ Agr.rf (fun cf K => ?_)
      · rw [List.append_nil]
        exact ⟨h.1, h.2.1, ⟨hv, hv, hA1⟩, h.2.2.2⟩
      · show (if v.category = 1 then _ else none) = _
        rw [if_pos (sv_c1 hv hc)]
  · cases hr
def sy_dup2 (pc : Nat) (S : SS) : Option (List (Nat × SS)) := match S.2.2.1 with
  | a :: b :: r => cond (Nat.beq a.1 1 || Nat.beq b.1 1) none (some [(pc + 1, (S.1, S.2.1, a :: b :: a :: b :: r, S.2.2.2))])
  | _ => none
theorem sy_dup2_ok (hf : mF M mi pc = some (.dup2, x, y)) (h : st_ok G ρ S L st hp) (hr : sy_dup2 pc S = some l) : SOk G W M dd mi pc ρ L st hp l := by
  unfold sy_dup2 at hr
  split at hr
  · rename_i a b r hS
    cases hc : (Nat.beq a.1 1 || Nat.beq b.1 1) with
    | true => rw [hc] at hr; cases hr
    | false =>
      rw [hc] at hr
      cases hr
      rw [Bool.or_eq_false_iff] at hc
      have hA := h.2.2.1
      rw [hS] at hA
      obtain ⟨v, r1, e, hv, hA1⟩ := ss_c hA
      obtain ⟨w, r2, e2, hw, hA2⟩ := ss_c hA1
      subst e2 e
      refine so_mk hf (List.mem_singleton.mpr rfl) (τ := []) (L2 := L) (st2 := v :: w :: v :: w :: r2) (hp2 := hp) ?_ Agr.rf (fun cf K => ?_)
      · rw [List.append_nil]
        exact ⟨h.1, h.2.1, ⟨hv, hw, hv, hw, hA2⟩, h.2.2.2⟩
      · show (if v.category = 1 ∧ w.category = 1 then _ else none) = _
        rw [if_pos ⟨sv_c1 hv hc.1, sv_c1 hw hc.2⟩]
  · cases hr
def sy_pop (pc : Nat) (S : SS) : Option (List (Nat × SS)) := match S.2.2.1 with
  | a :: r => cond (Nat.beq a.1 1) none (some [(pc + 1, (S.1, S.2.1, r, S.2.2.2))])
  | [] => none
theorem sy_pop_ok (hf : mF M mi pc = some (.pop, x, y)) (h : st_ok G ρ S L st hp) (hr : sy_pop pc S = some l) : SOk G W M dd mi pc ρ L st hp l := by
  unfold sy_pop at hr
  split at hr
  · rename_i a r hS
    cases hc : Nat.beq a.1 1 with
    | true => rw [hc] at hr; cases hr
    | false =>
      rw [hc] at hr
      cases hr
      have hA := h.2.2.1
      rw [hS] at hA
      obtain ⟨v, r1, e, hv, hA1⟩ := ss_c hA
      subst e
      refine so_mk hf (List.mem_singleton.mpr rfl) (τ := []) (L2 := L) (st2 := r1) (hp2 := hp) ?_ Agr.rf (fun cf K => ?_)
      · rw [List.append_nil]
        exact ⟨h.1, h.2.1, hA1, h.2.2.2⟩
      · show (if v.category = 1 then _ else none) = _
        rw [if_pos (sv_c1 hv hc)]
  · cases hr
theorem sy_goto_ok {o : Int} (hf : mF M mi pc = some (.goto o, x, y)) (h : st_ok G ρ S L st hp) : SOk G W M dd mi pc ρ L st hp [(x, S)] := by
  refine so_mk hf (List.mem_singleton.mpr rfl) (τ := []) (L2 := L) (st2 := st) (hp2 := hp) ?_ Agr.rf (fun cf K => rfl)
  rw [List.append_nil]
  exact h
end
